import java.lang.reflect.Constructor;
import java.lang.reflect.Field;
import java.lang.reflect.Method;
import java.lang.reflect.Modifier;
import java.nio.file.Files;
import java.nio.file.Path;
import java.util.ArrayList;
import java.util.Arrays;
import java.util.List;
import java.util.Set;
import java.util.TreeSet;
import java.util.regex.Matcher;
import java.util.regex.Pattern;

/** The face as the document has it, and what of LANGUAGE.md can be seen from outside or from the source's lines. */
public final class LanguageTest {
    private static final String SOURCE = "src/main/java/WhereTheLadder.java";
    private static final String[] FACE = {
        "int sign(int)", "boolean end(int)", "int orchard()", "int rule()", "int fruit(int,int)", "int standing(int,int)",
        "int set(int,int)", "int sheet(int,int,int,int)", "int move(int)", "int foot(int)", "int pick(int,int)", "int down()",
        "int shake()", "int sleep()", "int day()", "int undo()", "int reached(int)", "int from(int,int)", "int never()",
        "int seconds(int,int,int)", "int both(int,int)", "int nearest(int)", "int fewest()", "int needed()", "int birds(int)",
        "int next(int)", "int route(int)", "int work(int)", "int soonest()", "int pays(int)", "int trips(int)", "int helps()",
        "int hooked()", "int broken(int)", "int sweep(int)", "int dusk(int)", "int gentle()", "int harm()", "int share(int)",
        "int ripens()", "int ondays(int)", "int allripe()", "int marks(int,int)", "int grass(int)", "int fits(int)",
        "int leaned(int,int)", "int autumn(int,int,int)", "boolean keep(int)", "boolean again(int)", "int count(int)", "int row(int)"};
    private static final String[] FORBIDDEN = {
        "->", "::", "\\btry\\b", "\\bcatch\\b", "\\bfinally\\b", "\\bsynchronized\\b", "\\bassert\\b", "Exact\\(", "\\bpackage\\b",
        "\\bSystem\\b", "\\bObject\\b", "\\bdouble\\b", "\\bfloat\\b", "\\bThread\\b", "\\bvar\\b", "\\bnull\\b", "\\bstatic \\{",
        "\\bequals\\b", "\\bhashCode\\b", "\\btoString\\b", "[^\\x00-\\x7f]"};

    private static int wrong = 0;

    private static void need(boolean good, String what) {
        if (!good) {
            wrong++;
            System.out.println(what);
        }
    }

    public static void main(String[] args) throws Exception {
        face();
        inside();
        source(Files.readAllLines(Path.of(SOURCE)));
        System.out.println(wrong == 0 ? "the face and the language are as they must be" : wrong + " are not as they must be");
        if (wrong != 0) System.exit(1);
    }

    private static String told(Method m) {
        List<String> types = new ArrayList<>();
        for (Class<?> c : m.getParameterTypes()) types.add(c.getSimpleName());
        return m.getReturnType().getSimpleName() + " " + m.getName() + "(" + String.join(",", types) + ")";
    }

    private static void face() throws Exception {
        Class<?> c = WhereTheLadder.class;
        need(Modifier.isPublic(c.getModifiers()) && Modifier.isFinal(c.getModifiers()), "the class is not public and final");
        Set<String> publicOnes = new TreeSet<>();
        Set<String> names = new TreeSet<>();
        for (Method m : c.getDeclaredMethods()) {
            if (Modifier.isPublic(m.getModifiers())) {
                publicOnes.add(told(m));
                names.add(m.getName());
            }
        }
        need(publicOnes.equals(new TreeSet<>(Arrays.asList(FACE))), "public methods: " + publicOnes);
        for (Method m : c.getDeclaredMethods()) {
            if (!Modifier.isPublic(m.getModifiers())) {
                need(Modifier.isPrivate(m.getModifiers()) && !names.contains(m.getName()), "method " + m);
            }
        }
        Constructor<?>[] made = c.getDeclaredConstructors();
        need(made.length == 1 && Modifier.isPublic(made[0].getModifiers()) && made[0].getParameterCount() == 0, "constructors");
        for (Field f : c.getDeclaredFields()) {
            boolean isNone = f.getName().equals("NONE");
            need(isNone ? Modifier.isPublic(f.getModifiers()) : Modifier.isPrivate(f.getModifiers()), "field " + f);
        }
        for (String name : new String[] {"fruit", "standing"}) {
            Class<?>[] thrown = c.getMethod(name, int.class, int.class).getExceptionTypes();
            need(thrown.length == 1 && thrown[0].getSimpleName().equals("NoSuchElementException"), name + " throws");
        }
    }

    private static void inside() {
        List<Class<?>> all = new ArrayList<>(List.of(WhereTheLadder.class.getDeclaredClasses()));
        need(all.size() <= 11, "classes inside: " + all.size());
        for (Class<?> c : all) {
            int mods = c.getModifiers();
            need(Modifier.isStatic(mods) && !Modifier.isPublic(mods) && !Modifier.isProtected(mods), "class " + c);
            int own = 0;
            for (Field f : c.getDeclaredFields()) {
                boolean fixed = Modifier.isStatic(f.getModifiers());
                own += fixed ? 0 : 1;
                need(!fixed || Modifier.isFinal(f.getModifiers()), "static and not final: " + f);
            }
            need(own <= 20, "fields of " + c + ": " + own);
            for (Method m : c.getDeclaredMethods()) {
                need(m.getParameterCount() <= 7, "parameters of " + m);
                for (String face : FACE) {
                    need(!face.contains(" " + m.getName() + "("), "bears the name of a public one: " + m);
                }
            }
        }
    }

    private static void source(List<String> lines) {
        boolean inComment = false;
        int methodFrom = -1;
        for (int i = 0; i < lines.size(); i++) {
            String line = lines.get(i);
            inComment |= line.strip().startsWith("/*");
            String code = inComment ? "" : line.replaceAll("//.*", "");
            if (line.contains("*/")) inComment = false;
            for (String bad : FORBIDDEN) {
                Matcher m = Pattern.compile(bad).matcher(code);
                need(!m.find(), SOURCE + ":" + (i + 1) + ": " + bad);
            }
            if (code.startsWith("import")) need(code.equals("import java.util.NoSuchElementException;"), code);
            if (code.contains("throw new")) need(code.strip().equals("throw new NoSuchElementException();"), code);
            if (code.matches("^ {4}( {4})?\\S.*\\) (throws \\w+ )?\\{$")) methodFrom = i;
            if (code.matches("^ {4}( {4})?\\}$") && methodFrom >= 0) {
                need(i - methodFrom + 1 <= 60, SOURCE + ":" + (methodFrom + 1) + ": longer than 60 lines");
                methodFrom = -1;
            }
        }
    }
}
