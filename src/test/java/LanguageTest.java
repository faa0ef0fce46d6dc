import java.io.PrintWriter;
import java.io.StringWriter;
import java.lang.reflect.Constructor;
import java.lang.reflect.Field;
import java.lang.reflect.Method;
import java.lang.reflect.Modifier;
import java.nio.file.Files;
import java.nio.file.Path;
import java.util.ArrayList;
import java.util.Arrays;
import java.util.List;
import java.util.Map;
import java.util.Set;
import java.util.TreeMap;
import java.util.TreeSet;
import java.util.regex.Matcher;
import java.util.regex.Pattern;
import java.util.spi.ToolProvider;

/** The face as the document has it, and what of LANGUAGE.md can be seen from outside or from the source's lines. */
public final class LanguageTest {
    private static final String SOURCE = "src/main/java/WhereTheLadder.java";
    private static final String[] FACE = {
        "int sign(int)", "boolean end(int)", "int orchard()", "int rule()", "int fruit(int,int)", "int standing(int,int)",
        "int set(int,int)", "int sheet(int,int,int,int)", "int move(int)", "int foot(int)", "int pick(int,int)", "int down()",
        "int shake()", "int sleep()", "int day()", "int undo()", "int reached(int)", "int from(int,int)", "int never()",
        "int seconds(int,int,int)", "int both(int,int)", "int nearest(int)", "int fewest()", "int needed()", "int birds(int)",
        "int next(int)", "int route(int)", "int work(int)", "int soonest()", "int pays(int)", "int trips(int)", "int helps()",
        "int hooked()", "int broken(int)", "int sweep(int)", "int dusk(int)", "int gentle()", "int harm()", "int share(int)",
        "int ripens()", "int ondays(int)", "int allripe()", "int marks(int,int)", "int grass(int)", "int fits(int)",
        "int leaned(int,int)", "int autumn(int,int,int)", "boolean keep(int)", "boolean again(int)", "int count(int)", "int row(int)"};
    private static final String[] FORBIDDEN = {
        "->", "::", "\\btry\\b", "\\bcatch\\b", "\\bfinally\\b", "\\bsynchronized\\b", "\\bassert\\b", "Exact\\(", "\\bpackage\\b",
        "\\bSystem\\b", "\\bObject\\b", "\\bdouble\\b", "\\bfloat\\b", "\\bThread\\b", "\\bvar\\b", "\\bnull\\b", "\\bstatic \\{",
        "\\bequals\\b", "\\bhashCode\\b", "\\btoString\\b", "[^\\x00-\\x7f]"};

    private static int wrong = 0;

    private static void need(boolean good, String what) {
        if (!good) {
            wrong++;
            System.out.println(what);
        }
    }

    public static void main(String[] args) throws Exception {
        face();
        inside();
        source(Files.readAllLines(Path.of(SOURCE)));
        depth();
        System.out.println(wrong == 0 ? "the face and the language are as they must be" : wrong + " are not as they must be");
        if (wrong != 0) System.exit(1);
    }

    private static String told(Method m) {
        List<String> types = new ArrayList<>();
        for (Class<?> c : m.getParameterTypes()) types.add(c.getSimpleName());
        return m.getReturnType().getSimpleName() + " " + m.getName() + "(" + String.join(",", types) + ")";
    }

    private static void face() throws Exception {
        Class<?> c = WhereTheLadder.class;
        need(Modifier.isPublic(c.getModifiers()) && Modifier.isFinal(c.getModifiers()), "the class is not public and final");
        Set<String> publicOnes = new TreeSet<>();
        Set<String> names = new TreeSet<>();
        for (Method m : c.getDeclaredMethods()) {
            if (Modifier.isPublic(m.getModifiers())) {
                publicOnes.add(told(m));
                names.add(m.getName());
            }
        }
        need(publicOnes.equals(new TreeSet<>(Arrays.asList(FACE))), "public methods: " + publicOnes);
        for (Method m : c.getDeclaredMethods()) {
            if (!Modifier.isPublic(m.getModifiers())) {
                need(Modifier.isPrivate(m.getModifiers()) && !names.contains(m.getName()), "method " + m);
            }
        }
        Constructor<?>[] made = c.getDeclaredConstructors();
        need(made.length == 1 && Modifier.isPublic(made[0].getModifiers()) && made[0].getParameterCount() == 0, "constructors");
        for (Field f : c.getDeclaredFields()) {
            boolean isNone = f.getName().equals("NONE");
            need(isNone ? Modifier.isPublic(f.getModifiers()) : Modifier.isPrivate(f.getModifiers()), "field " + f);
        }
        for (String name : new String[] {"fruit", "standing"}) {
            Class<?>[] thrown = c.getMethod(name, int.class, int.class).getExceptionTypes();
            need(thrown.length == 1 && thrown[0].getSimpleName().equals("NoSuchElementException"), name + " throws");
        }
        Class<?>[] thrown = c.getMethod("row", int.class).getExceptionTypes();
        need(thrown.length == 1 && thrown[0].getSimpleName().equals("NoSuchElementException"), "row throws");
        need(c.getField("NONE").getInt(null) == -1 && Modifier.isFinal(c.getField("NONE").getModifiers()), "NONE");
    }

    private static void inside() {
        List<Class<?>> all = new ArrayList<>(List.of(WhereTheLadder.class.getDeclaredClasses()));
        need(all.size() <= 11, "classes inside: " + all.size());
        for (Class<?> c : all) {
            int mods = c.getModifiers();
            need(Modifier.isStatic(mods) && !Modifier.isPublic(mods) && !Modifier.isProtected(mods), "class " + c);
            int own = 0;
            for (Field f : c.getDeclaredFields()) {
                boolean fixed = Modifier.isStatic(f.getModifiers());
                own += fixed ? 0 : 1;
                need(!fixed || Modifier.isFinal(f.getModifiers()), "static and not final: " + f);
            }
            need(own <= 20, "fields of " + c + ": " + own);
            for (Method m : c.getDeclaredMethods()) {
                need(m.getParameterCount() <= 7, "parameters of " + m);
                for (String face : FACE) {
                    need(!face.contains(" " + m.getName() + "("), "bears the name of a public one: " + m);
                }
            }
        }
    }

    private static void source(List<String> lines) {
        boolean inComment = false;
        int methodFrom = -1;
        for (int i = 0; i < lines.size(); i++) {
            String line = lines.get(i);
            inComment |= line.strip().startsWith("/*");
            String code = inComment ? "" : line.replaceAll("//.*", "");
            if (line.contains("*/")) inComment = false;
            for (String bad : FORBIDDEN) {
                Matcher m = Pattern.compile(bad).matcher(code);
                need(!m.find(), SOURCE + ":" + (i + 1) + ": " + bad);
            }
            if (code.startsWith("import")) need(code.equals("import java.util.NoSuchElementException;"), code);
            if (code.contains("throw new")) need(code.strip().equals("throw new NoSuchElementException();"), code);
            if (code.matches("^ {4}( {4})?\\S.*\\) (throws \\w+ )?\\{$")) methodFrom = i;
            if (code.matches("^ {4}( {4})?\\}$") && methodFrom >= 0) {
                need(i - methodFrom + 1 <= 60, SOURCE + ":" + (methodFrom + 1) + ": longer than 60 lines");
                methodFrom = -1;
            }
        }
    }

    // ---- how deep calls go, the library's own counted

    private static final Pattern METHOD = Pattern.compile("^ {2}(?:\\S.*?)?([\\w$]+)\\(([^)]*)\\).*;$");
    private static final Pattern CALL = Pattern.compile("invoke.*// (?:Interface)?Method ([^:]+):\\(([^)]*)\\)");
    private static final Pattern TYPE = Pattern.compile("\\[*(?:L[^;]+;|[A-Z])");

    private static void depth() throws Exception {
        Path classes = Path.of(WhereTheLadder.class.getProtectionDomain().getCodeSource().getLocation().toURI());
        Map<String, Set<String>> calls = new TreeMap<>();
        addCalls(calls, classes, WhereTheLadder.class.getName());
        for (Class<?> c : WhereTheLadder.class.getDeclaredClasses()) addCalls(calls, classes, c.getName());
        need(calls.size() > 51 + 1, "methods found: " + calls.size());
        for (String method : calls.keySet()) {
            List<String> chain = longest(calls, method, new ArrayList<>());
            need(chain.size() <= 8, "more than eight deep: " + chain);
        }
    }

    private static void addCalls(Map<String, Set<String>> calls, Path classes, String name) {
        StringWriter told = new StringWriter();
        ToolProvider.findFirst("javap").orElseThrow().run(new PrintWriter(told), new PrintWriter(told),
            "-p", "-c", classes.resolve(name + ".class").toString());
        String method = "";
        for (String line : told.toString().split("\\R")) {
            Matcher head = METHOD.matcher(line);
            Matcher call = CALL.matcher(line);
            if (head.matches()) {
                boolean isMaking = head.group(1).equals(name);
                int many = head.group(2).isEmpty() ? 0 : head.group(2).split(",").length;
                method = name + "." + (isMaking ? "<init>" : head.group(1)) + "/" + many;
                calls.put(method, new TreeSet<>());
            } else if (call.find()) {
                String called = call.group(1).replace("\"", "");
                long many = TYPE.matcher(call.group(2)).results().count();
                calls.get(method).add((called.contains(".") ? "" : name + ".") + called + "/" + many);
            }
        }
    }

    /** The longest chain of calls from a method on; a method that calls itself is told as a fault. */
    private static List<String> longest(Map<String, Set<String>> calls, String method, List<String> open) {
        List<String> best = new ArrayList<>();
        need(!open.contains(method), "calls itself: " + method);
        if (open.contains(method)) return best;
        open.add(method);
        for (String called : calls.getOrDefault(method, Set.of())) {
            List<String> chain = longest(calls, called, open);
            if (chain.size() > best.size()) best = chain;
        }
        open.remove(open.size() - 1);
        best = new ArrayList<>(best);
        best.add(0, method);
        return best;
    }
}
