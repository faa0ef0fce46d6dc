import java.util.NoSuchElementException;

/** Each promise of the document by its number: ordinary calls, the edges it names, wrong inputs. */
public final class PromisesTest {
    private static final int MISSING = Integer.MIN_VALUE;
    private static final String TREE = "f10,5*3;f10,9*5;f12,20*2@1;f30,8*4;f40,30*9;s10,6;s28,10;s16,12";

    private static int wrong = 0;
    private static int checks = 0;
    private static int promise = 0;
    private static WhereTheLadder x;

    private static void due(String what, long got, long want) {
        checks++;
        if (got != want) {
            wrong++;
            System.out.println("promise " + promise + ": " + what + " answered " + got + ", due is " + want);
        }
    }

    private static void due(String what, boolean got, boolean want) {
        due(what, got ? 1 : 0, want ? 1 : 0);
    }

    private static void dueRow(String what, int... want) {
        due(what + ": numbers of the row", x.count(12), want.length);
        for (int i = 0; i < want.length && i < x.count(12); i++) due(what + ": row(" + i + ")", x.row(i), want[i]);
    }

    private static void fresh(int number) {
        promise = number;
        x = new WhereTheLadder();
    }

    private static void fresh(int number, String... orchards) {
        fresh(number);
        for (String s : orchards) {
            type(s);
            due("orchard() of " + s, x.orchard(), s.split(";").length);
        }
    }

    private static void type(String s) {
        x.end(0);
        for (int i = 0; i < s.length(); i += 4) {
            int v = 0;
            for (int k = 0; k < 4; k++) v = v << 8 | (i + k < s.length() ? s.charAt(i + k) : 0);
            x.sign(v);
        }
        x.end(s.length());
    }

    private static int orchard(String s) {
        type(s);
        return x.orchard();
    }

    private static int rule(String s) {
        type(s);
        return x.rule();
    }

    private static int day(String s) {
        type(s);
        return x.day();
    }

    private static int grass(String s, int e) {
        type(s);
        return x.grass(e);
    }

    private static int fruit(int f, int what) {
        try {
            return x.fruit(f, what);
        } catch (NoSuchElementException e) {
            return MISSING;
        }
    }

    private static int standing(int s, int what) {
        try {
            return x.standing(s, what);
        } catch (NoSuchElementException e) {
            return MISSING;
        }
    }

    private static int row(int i) {
        try {
            return x.row(i);
        } catch (NoSuchElementException e) {
            return MISSING;
        }
    }

    public static void main(String[] args) {
        theNewObject();
        signs();
        ends();
        orchards();
        orchardsWithoutRoom();
        rules();
        rulesReckoned();
        fruits();
        standings();
        settings();
        sheets();
        moves();
        feet();
        picks();
        downs();
        shakes();
        sleeps();
        days();
        undos();
        reaches();
        froms();
        nevers();
        secondsOf();
        boths();
        nearests();
        fewests();
        neededOnes();
        birdsLeft();
        nexts();
        routes();
        works();
        soonests();
        paysOf();
        tripsOf();
        helpsOf();
        hookedOnes();
        brokenOnes();
        sweeps();
        dusks();
        gentleOnes();
        harms();
        shares();
        ripensFirst();
        ondaysOf();
        allripes();
        marksInGrass();
        grassRows();
        fitting();
        leanings();
        autumns();
        keeps();
        agains();
        counts();
        rows();
        System.out.println(checks + " checks of promises, " + wrong + " wrong");
        if (wrong != 0) System.exit(1);
    }

    private static void theNewObject() {
        fresh(1);
        due("NONE", WhereTheLadder.NONE, -1);
        int[] due = {0, 0, -1, 0, 0, 0, 0, 0, 0, 0, 0, 0, 0, 0};
        for (int i = 0; i < due.length; i++) due("count(" + i + ")", x.count(i), due[i]);
        due("arm", x.set(0, 8), 8);
        due("lean", x.set(1, 3), 3);
        due("hook", x.set(2, 5), 5);
        due("moving", x.set(3, 1), 1);
        due("room", x.set(4, 6), 6);
        due("foot", x.foot(0), 0);
    }

    private static void signs() {
        fresh(2);
        due("highest byte first", x.sign('s' << 24 | '1' << 16 | ',' << 8 | '2'), 4);
        due("they are a text", x.orchard(), 1);
        due("FORK", x.standing(0, 1), 2);
        for (int i = 1; i <= 20; i++) due("sign " + i, x.sign(-1), 4 * i);
        due("81 signs", x.sign(0), -1);
        due("as many as before", x.count(13), 80);
        x.end(77);
        due("77 and 4", x.sign(0), -1);
        x.end(76);
        due("76 and 4", x.sign(0), 80);
        x.end(0);
        x.sign(0xE6000000);
        x.end(1);
        due("a sign above 127 is no f", x.orchard(), -1);
    }

    private static void ends() {
        fresh(3);
        due("none of none", x.end(0), true);
        due("one of none", x.end(1), false);
        x.sign(0);
        due("below 0", x.end(-1), false);
        due("more", x.end(5), false);
        due("nothing changed", x.count(13), 4);
        due("all", x.end(4), true);
        due("some", x.end(3), true);
        due("signs", x.count(13), 3);
        due("least int", x.end(Integer.MIN_VALUE), false);
    }

    private static void orchards() {
        fresh(4);
        due("nothing", orchard(""), 0);
        due("two lines", orchard("f07,99*0@9;s0,5"), 2);
        due("x", fruit(0, 0), 7);
        due("height", fruit(0, 1), 99);
        due("worth", fruit(0, 2), 0);
        due("ripe", fruit(0, 3), 9);
        due("foot", standing(0, 0), 0);
        due("the text is emptied", x.count(13), 0);
        due("behind what there is", orchard("f1,2"), 1);
        due("worth at first", fruit(1, 2), 1);
        due("ripe at first", fruit(1, 3), 0);
        due("only @", orchard("f1,2@3"), 1);
        due("ripe", fruit(2, 3), 3);
        due("worth", fruit(2, 2), 1);
        String[] bad = {"g", "F1,1", "f", "fx", "f1", "f123,1", "f1,", "f1,x", "f1,123", "f1,1*", "f1,1*x", "f1,1@", "f1,1@1*1",
            "f1,1*11", "f1,1;", "f1,1;;", ";", "s1,1*1", "s1,1@1", "s", "s1", "s1,", "s1;", " f1,1", "f1,1 ", "f-1,1", "s1,1;s1,1x"};
        int[] at = {0, 0, 1, 1, 2, 3, 3, 3, 5, 5, 5, 5, 6, 6, 5, 5, 0, 4, 4, 1, 2, 3, 2, 0, 4, 1, 9};
        for (int i = 0; i < bad.length; i++) due(bad[i], orchard(bad[i]), -1 - at[i]);
        due("nothing of a bad one comes", x.count(0), 3);
        due("nor standings", x.count(1), 1);
        due("the text is emptied", x.count(13), 0);
        String most = "f11,11*1@1;f11,11*1@1;f11,11*1@1;f11,11*1@1;f11,11*1@1;f11,11*1@1;f11,11*1@";
        due("76 signs", orchard(most + "1"), 7);
        String most74 = "f11,11*1@1;f11,11*1@1;f11,11*1@1;f11,11*1@1;f11,11*1@1;f11,11*1@1;f11,11*1";
        fresh(4);
        due("76 could end, a 77th", orchard(most74 + "@1;"), -1 - 76);
        due("76 could go on, a 77th", orchard(most74 + ";f1"), -1 - 76);
        due("76, too early", orchard(most74 + ";f"), -1 - 76);
        due("wrong ahead of 76", orchard(most74 + ";g12"), -1 - 75);
    }

    private static void orchardsWithoutRoom() {
        fresh(4, "s1,1;s1,1;s1,1;s1,1;s1,1;s1,1;s1,1");
        due("one too many", orchard("f1,1;s2,2;s3,3"), -1 - 10);
        due("none came", x.count(1), 7);
        due("nor a fruit", x.count(0), 0);
        due("one more", orchard("s2,2"), 1);
        due("no more", orchard("s2,2"), -1);
        due("the first sign is what can't stand", orchard("f1,1;sx"), -1 - 5);
        due("fruits yet", orchard("f1,1;f1,1;f1,1;f1,1;f1,1;f1,1;f1,1;f1,1"), 8);
        due("fruits yet", orchard("f1,1;f1,1;f1,1;f1,1;f1,1;f1,1;f1,1;f1,1"), 8);
        due("no more fruits", orchard("f1,1"), -1);
        due("16", x.count(0), 16);
        due("8", x.count(1), 8);
    }

    private static void rules() {
        fresh(5, "f5,5*9;s5,5");
        due("none", rule(""), 0);
        String[] good = {"1", "999", "d", "--d", "-(-d)", "1-2-3", "((((d))))", "(d<u)=(y>w)", "1<-2", "d*-u/-o+k-s", "-1*2",
            "(1)+(2)", "1+1+1+1+1+1+1+1+1+1+1+1+1+1+1+1+1+1+1+11"};
        for (String s : good) due(s, rule(s), 0);
        String[] bad = {"z", "+1", "1+", "1++", "1000", "1d", "d1", "d<u<y", "d<(u<y", "(((((", "()", "(1", "1)", "(1))", "-", "1=", "1==1", "1 ",
            "D", "(1)2", "1-+", "n", "dn1"};
        int[] at = {0, 0, 2, 2, 3, 1, 1, 3, 6, 4, 1, 2, 1, 3, 1, 2, 2, 1, 0, 3, 2, 0, 1};
        for (int i = 0; i < bad.length; i++) due(bad[i], rule(bad[i]), -1 - at[i]);
        due("the text is emptied", x.count(13), 0);
        String forty = "1+1+1+1+1+1+1+1+1+1+1+1+1+1+1+1+1+1+1+1-";
        due("40 signs", rule(forty.substring(0, 39) + "9"), 0);
        due("41 signs, 40 could go on", rule(forty + "1"), -1 - 40);
        due("40 signs, too early", rule(forty), -1 - 40);
        due("41 signs, 40 could end", rule(forty.substring(0, 39) + "99"), -1 - 40);
        due("wrong ahead of 40", rule(forty.substring(0, 39) + "x1"), -1 - 39);
    }

    private static int reckoned(String s) {
        due("rule " + s, rule(s), 0);
        return x.seconds(0, 0, 0);
    }

    private static void rulesReckoned() {
        fresh(5, "f13,11*7;f13,9;s1,1;s10,5");
        x.set(0, 30);
        due("none: 2+d/4+u/2", x.seconds(0, 0, 0), 2 + 12 / 4 + 10 / 2);
        String[] texts = {"d", "u", "y", "w", "s+1", "k+2", "o+3", "20-5-3", "20/3/2", "2+3*4", "(2+3)*4", "7/2*2", "-7/2+10", "5/0+1",
            "1+(2<3)", "1+(3<2)", "1+(3>2)", "1+(2=2)", "1+(2<2)", "1+(2>2)", "1+(2>3)", "1+(2=3)", "2<3+4", "5+(1+1=2)", "--4", "---4+9", "2*-3+10", "-2*-3", "8--2", "0-5", "100",
            "98+1", "99+1", "1", "0", "w*w*w*w*w*w*w*w*w*w*w*w", "999*999*999*999/999", "(1-2)*999*999*999*999/999+40"};
        int[] want = {12, 10, 11, 7, 1, 2, 3, 12, 3, 14, 20, 6, 7, 1, 2, 1, 2, 2, 1, 1, 1, 1, 1, 6, 4, 5, 4, 6, 10, 1, 99, 99, 99, 1, 1, 99, 1, 1};
        int sevens = 1;
        for (int i = 0; i < 12; i++) sevens *= 7;
        want[35] = Math.max(1, Math.min(99, sevens));
        want[36] = Math.max(1, Math.min(99, 999 * 999 * 999 * 999 / 999));
        want[37] = Math.max(1, Math.min(99, -1 * 999 * 999 * 999 * 999 / 999 + 40));
        for (int i = 0; i < texts.length; i++) due(texts[i], reckoned(texts[i]), want[i]);
        due("s of the second", rule("s+5"), 0);
        due("s", x.seconds(0, 1, 0), 6);
        due("o", rule("o*7+1"), 0);
        due("with the hook", x.seconds(0, 1, 1), 8);
        due("a refused rule", rule("d+"), -3);
        due("leaves the one before", x.seconds(0, 1, 1), 8);
        due("k as they are picked", rule("k+4"), 0);
        x.move(0);
        due("first", x.pick(1, 0), 4);
        due("second", x.pick(0, 0), 5);
        due("0 where it is thought of", x.seconds(0, 0, 0), 4);
        due("w of one that is bruised", rule("w"), 0);
        fresh(5, "f1,5*9;f1,9;s1,1");
        x.move(0);
        x.pick(1, 0);
        rule("w");
        due("counts half", x.seconds(0, 0, 0), 4);
    }

    private static void fruits() {
        fresh(6, "f10,5*3@2;f11,9*9;f12,9;f10,20;s10,10");
        int[] due = {10, 5, 3, 2, 0, 0, 0};
        for (int i = 0; i < due.length; i++) due("what " + i, fruit(0, i), due[i]);
        due("below 1", fruit(1, 6), 1);
        due("2 off", fruit(2, 6), 0);
        due("below the highest", fruit(3, 6), 1 | 2);
        x.move(0);
        x.pick(1, 0);
        due("in the apron", fruit(1, 4), 1);
        due("bruised", fruit(0, 5), 1);
        due("none is below what does not hang", fruit(1, 6), 0);
        due("nor is it below", fruit(3, 6), 1);
        x.down();
        due("in the basket", fruit(1, 4), 2);
        x.shake();
        due("on the ground", fruit(2, 4), 3);
        due("bruised", fruit(2, 5), 1);
        due("worth as told", fruit(2, 2), 1);
        int[][] missing = {{-1, 0}, {4, 0}, {0, -1}, {0, 7}, {Integer.MAX_VALUE, 0}, {0, Integer.MIN_VALUE}};
        for (int[] m : missing) due("fruit(" + m[0] + ", " + m[1] + ")", fruit(m[0], m[1]), MISSING);
    }

    private static void standings() {
        fresh(7, "s9,0;s8,1;s7,10;s6,11;s5,99");
        int[] down = {3, 4, 4, 5, 13};
        for (int s = 0; s < down.length; s++) {
            due("foot", standing(s, 0), 9 - s);
            due("down", standing(s, 2), down[s]);
        }
        due("fork", standing(4, 1), 99);
        int[][] missing = {{-1, 0}, {5, 0}, {0, -1}, {0, 3}};
        for (int[] m : missing) due("standing(" + m[0] + ", " + m[1] + ")", standing(m[0], m[1]), MISSING);
    }

    private static void settings() {
        fresh(8);
        int[][] bounds = {{0, 30, 8}, {0, 30, 3}, {0, 30, 5}, {0, 9, 1}, {1, 16, 6}};
        for (int what = 0; what < 5; what++) {
            int[] b = bounds[what];
            due("too little", x.set(what, b[0] - 1), -1);
            due("too much", x.set(what, b[1] + 1), -1);
            due("at first", x.set(what, b[0]), b[2]);
            due("then", x.set(what, b[1]), b[0]);
            due("then", x.set(what, b[1]), b[1]);
        }
        due("others", x.set(-1, 1), -1);
        due("others", x.set(5, 1), -1);
        due("least", x.set(Integer.MIN_VALUE, 1), -1);
        fresh(8, "f10,5;s0,9;s9,9");
        due("by 8 not", x.from(0, 0), 2);
        x.set(0, 10);
        due("by 10", x.from(0, 0), 3);
        x.set(0, 7);
        x.set(1, 3);
        x.foot(1);
        due("by 7 and 3", x.from(0, 0), 3);
        x.set(1, 2);
        due("by 7 and 2", x.from(0, 0), 2);
        x.set(2, 1);
        due("by 7, 2 and 1", x.from(0, 1), 3);
        x.set(3, 5);
        x.move(0);
        due("moving", x.move(1), 9 + 45);
    }

    private static void sheets() {
        fresh(9, "f1,1*3;f1,1;f1,1");
        due("ints", x.sheet(2, 2, 5, 3), 13);
        due("first", fruit(0, 2), 5);
        due("second", fruit(1, 2), 8);
        due("behind", fruit(2, 2), 0);
        due("bytes", x.sheet(0, 3, 250, 3), 0 + 0 + 0);
        due("bytes again", x.sheet(0, 3, 250, 4), 0 + 0 + 2);
        due("shorts", x.sheet(1, 2, 65535, 3), 0 + 2);
        due("ints are put", x.sheet(2, 2, 65535, 3), 18);
        due("wrap", x.sheet(2, 2, Integer.MAX_VALUE, 2), 9 + 0);
        due("more entries than fruits", x.sheet(2, 16, 1, 0), 3);
        due("none", x.sheet(2, 0, 1, 0), 0);
        x.sheet(2, 3, 7, 0);
        due("below 0", x.sheet(0, -1, 1, 1), -2);
        due("below 0", x.sheet(2, Integer.MIN_VALUE, 1, 1), -2);
        due("nothing changed", fruit(2, 2), 7);
        due("17", x.sheet(1, 17, 1, 1), -1);
        due("another kind", x.sheet(4, 1, 1, 1), -1);
        due("another kind", x.sheet(-1, -1, 1, 1), -1);
        due("17 of missing", x.sheet(3, 17, 1, 1), -1);
        due("nothing changed", fruit(2, 2), 7);
        due("missing", x.sheet(3, -1, 1, 1), -3);
        due("all 0", fruit(0, 2) + fruit(1, 2) + fruit(2, 2), 0);
    }

    private static void moves() {
        fresh(10, TREE);
        due("none such", x.move(3), -1);
        due("none such", x.move(-1), -1);
        due("the first", x.move(2), 9);
        due("there", x.move(2), -2);
        due("another", x.move(1), 21);
        due("clock", x.count(4), 30);
        x.pick(3, 0);
        due("back, with going down from 1", x.move(2), 9 + 12 + 4);
        due("in the basket", x.count(7), 8);
        due("where", x.count(2), 2);
        fresh(10, "s0,0;s99,95;f99,95");
        x.set(3, 9);
        x.move(0);
        due("far", x.move(1), 900);
        x.pick(0, 0);
        due("down from the higher one", x.move(0), 900 + 13);
        for (int i = 0; i < 10; i++) due("and again", x.move(1 - i % 2), 900);
        due("clock is 9999 at most", x.count(4), 9999);
    }

    private static void feet() {
        fresh(11);
        due("two", x.foot(2), -1);
        due("below", x.foot(-1), -1);
        due("one", x.foot(1), 0);
        due("one yet", x.foot(1), 1);
        due("none", x.foot(0), 1);
        due("all three can be undone", x.count(11), 3);
    }

    private static void picks() {
        fresh(12, TREE, "f10,6@1;f10,14");
        due("nowhere", x.pick(0, 0), -4);
        due("not ripe comes first", x.pick(2, 0), -3);
        x.move(0);
        due("none such", x.pick(7, 0), -1);
        due("none such", x.pick(-1, 0), -1);
        due("no such hook", x.pick(0, 2), -1);
        due("no such hook", x.pick(0, -1), -1);
        due("by hand", x.pick(1, 0), 3);
        due("bruised: 0 and 5", x.count(9), 1 | 32);
        due("again", x.pick(1, 0), -2);
        due("again, no such hook", x.pick(1, 2), -1);
        due("too far by hand", x.pick(3, 0), -4);
        due("too far with the hook", x.pick(3, 1), -4);
        x.set(4, 1);
        due("too far comes ahead of full", x.pick(3, 0), -4);
        due("full", x.pick(0, 0), -5);
        due("nothing went by", x.count(4), 12);
        x.set(4, 2);
        due("the last that fits", x.pick(6, 0), 2 + 0 + 8 / 2);
        due("clock", x.count(4), 18);
        due("apron", x.count(6), 2 | 64);
        fresh(12, "f10,10;s0,10");
        x.move(0);
        due("by hand not", x.pick(0, 0), -4);
        x.foot(1);
        due("leaning", x.pick(0, 0), 4);
        x.undo();
        x.undo();
        due("with the hook", x.pick(0, 1), 4);
    }

    private static void downs() {
        fresh(13, TREE);
        due("nowhere", x.down(), -2);
        x.move(0);
        due("empty", x.down(), -2);
        x.pick(0, 0);
        x.pick(1, 0);
        due("two", x.down(), 2);
        due("basket", x.count(7), 3);
        due("clock", x.count(4), 9 + 2 + 3 + 4);
        due("empty again", x.down(), -2);
    }

    private static void shakes() {
        fresh(14, "f10,5*3;f10,9*5;f11,4@1;f12,3@1;f30,8;s10,6;s90,90");
        due("nowhere", x.shake(), -2);
        x.move(0);
        due("two fall", x.shake(), 2);
        due("ground", x.count(8), 3);
        due("bruised: they, and the unripe one below", x.count(9), 7);
        due("what hangs", x.count(5), 4 | 8 | 16);
        due("clock", x.count(4), 14);
        x.move(1);
        due("none falls", x.shake(), 0);
        due("it can be undone yet", x.count(11), 4);
        fresh(14, "f10,14;f10,3@1;s10,5");
        x.move(0);
        x.set(0, 8);
        due("by hand alone", x.shake(), 0);
        x.foot(1);
        due("with one at the foot", x.shake(), 1);
        due("bruised", x.count(9), 3);
    }

    private static void sleeps() {
        fresh(15, TREE);
        x.foot(1);
        x.move(0);
        x.pick(0, 0);
        due("one day more", x.sleep(), 1);
        due("nowhere", x.count(2), -1);
        due("basket", x.count(7), 1);
        due("apron", x.count(6), 0);
        due("clock", x.count(4), 0);
        due("the foot stays", x.foot(1), 1);
        for (int d = 2; d <= 9; d++) due("day", x.sleep(), d);
        x.move(0);
        due("no tenth", x.sleep(), -1);
        due("nothing changed", x.count(2), 0);
    }

    private static void days() {
        fresh(16, TREE);
        due("all acts", day("a;m2;p0;h1;d;o;k;z;m0"), 9);
        dueRow("all acts", 0, 2);
        due("day", x.count(3), 1);
        due("where", x.count(2), 0);
        due("one to undo", x.count(11), 1);
        due("text is emptied", x.count(13), 0);
        x.undo();
        due("all of it is undone", x.count(5), 31);
        due("till one can't be", day("m0;p0;p00;p1"), 2);
        dueRow("till one can't be", 1, 1);
        due("1 hangs yet", x.count(5), 31 - 1);
        due("none was done", day("m0"), 0);
        dueRow("none was done", 1, 0);
        due("none more to undo", x.count(11), 1);
        due("no such standing", day("m9"), 0);
        due("no such fruit", day("p99"), 0);
        due("nothing", day(""), 0);
        dueRow("nothing", 0, 0);
        String[] bad = {"x", "m", "mx", "m12", "p", "p123", "h", "hx", "d1", "k;", "z;;", ";", "a,o", "M1", "m1;p1;q"};
        int[] at = {0, 1, 1, 2, 1, 3, 1, 1, 1, 2, 2, 0, 1, 0, 6};
        x.needed();
        for (int i = 0; i < bad.length; i++) due(bad[i], day(bad[i]), -1 - at[i]);
        due("a bad one tells no row", x.count(12), 1);
        due("a bad one does nothing", day("m1;x"), -1 - 3);
        due("where it was", x.count(2), 0);
        String sixty = "a;".repeat(30);
        due("59 signs", day(sixty.substring(0, 59)), 30);
        due("60 signs, too early", day(sixty), -1 - 60);
        due("61 signs", day(sixty + "a"), -1 - 60);
        due("60 that could end, one more", day("m10".substring(0, 2) + ";a".repeat(29) + ";a"), -1 - 60);
        due("wrong ahead of 60", day(sixty.substring(0, 58) + "x;a"), -1 - 58);
        fresh(16, "s1,1");
        for (int i = 0; i < 9; i++) x.sleep();
        due("no tenth day", day("m0;z;k"), 1);
        dueRow("no tenth day", 1, 0);
    }

    private static void undos() {
        fresh(17, TREE);
        due("none", x.undo(), -1);
        x.move(0);
        x.foot(1);
        x.pick(1, 0);
        x.down();
        x.shake();
        x.sleep();
        day("m0;z");
        due("seven", x.count(11), 7);
        due("day", x.undo(), 6);
        due("DAY", x.count(3), 1);
        due("sleep", x.undo(), 5);
        due("DAY, where", x.count(3) * 10 + x.count(2), 0);
        due("clock", x.count(4), 9 + 3 + 4 + 5);
        due("shake", x.undo(), 4);
        due("ground", x.count(8), 0);
        due("bruised", x.count(9), 1);
        due("down", x.undo(), 3);
        due("apron", x.count(6), 2);
        due("pick", x.undo(), 2);
        due("bruised", x.count(9), 0);
        due("foot", x.undo(), 1);
        due("move", x.undo(), 0);
        due("foot is 0", x.foot(0), 0);
        due("nowhere", x.count(2), -1);
        x.undo();
        due("refused ones are not kept", x.move(9) + x.pick(0, 0) + x.down() + x.foot(7) + x.shake(), -10);
        due("none", x.undo(), -1);
        for (int i = 0; i < 15; i++) x.move(i % 2);
        due("12 are kept", x.count(11), 12);
        for (int i = 11; i >= 0; i--) due("undone", x.undo(), i);
        due("no more", x.undo(), -1);
        due("three moves stay", x.count(2), 0);
        due("their clock", x.count(4), 9 + 27 + 27);
        x.foot(0);
        due("an empty orchard forgets nothing", orchard(""), 0);
        due("a bad one neither", orchard("x"), -1);
        due("one", x.count(11), 1);
        due("orchard", orchard("s5,5"), 1);
        due("forgets", x.undo(), -1);
        x.foot(0);
        due("again refused", x.again(0), false);
        due("one", x.count(11), 1);
        x.keep(0);
        due("keep is none", x.count(11), 1);
        due("again", x.again(0), true);
        due("forgets", x.undo(), -1);
    }

    private static void reaches() {
        fresh(18, "f10,14;f18,6;f19,6;f16,11;f10,0;f10,23;s10,6;s99,0");
        x.foot(1);
        due("by hand", x.reached(0), 1 | 2 | 8 | 16);
        dueRow("leaning, with the hook", 1 | 2 | 4 | 8 | 16, 1 | 2 | 4 | 8 | 16);
        x.set(2, 6);
        x.reached(0);
        dueRow("a longer hook", 1 | 2 | 4 | 8 | 16, 63);
        x.move(0);
        x.pick(0, 0);
        due("hanging or not", x.reached(0), 1 | 2 | 8 | 16);
        due("none such", x.reached(2), -1);
        due("none such", x.reached(-1), -1);
        dueRow("row stays", 1 | 2 | 4 | 8 | 16, 63);
    }

    private static void froms() {
        fresh(19, "f10,10;s2,10;s21,10;s26,10;s27,10");
        due("by hand", x.from(0, 0), 1);
        due("with the hook", x.from(0, 1), 1 | 2);
        x.foot(1);
        due("leaning", x.from(0, 0), 1 | 2);
        due("both", x.from(0, 1), 1 | 2 | 4);
        due("none such", x.from(1, 0), -1);
        due("none such", x.from(-1, 0), -1);
        due("no hook", x.from(0, 2), -1);
        due("no hook", x.from(0, -1), -1);
    }

    private static void nevers() {
        fresh(20, "f10,10*5;f27,10*7@9;f40,10*9;s10,10");
        due("two", x.never(), 6);
        dueRow("worth", 16);
        x.set(2, 6);
        due("one", x.never(), 4);
        x.set(2, 5);
        x.set(1, 4);
        due("leaning counts, too", x.never(), 4);
        fresh(20, "f10,10*5;f10,40*3;f10,50*7;s10,10;s10,45");
        x.move(1);
        x.pick(2, 0);
        x.set(0, 0);
        x.move(0);
        x.set(1, 0);
        x.set(2, 0);
        due("bruised ones count half, picked ones not", x.never(), 0);
        x.set(0, 0);
        fresh(20, "f10,10*5;f10,50*7;s10,45;s20,0");
        x.move(0);
        x.pick(1, 0);
        due("0 is below 1: height less", x.count(9), 1);
        x.set(0, 0);
        x.set(1, 0);
        x.set(2, 0);
        due("within 0 of standing 0", x.never(), 0);
        fresh(20, "f9,10*5;f10,50*7;s10,45");
        x.move(0);
        x.pick(1, 0);
        x.set(0, 0);
        x.set(1, 0);
        x.set(2, 0);
        due("one hangs", x.never(), 1);
        dueRow("half of 5", 2);
    }

    private static void secondsOf() {
        fresh(21, TREE);
        due("by hand", x.seconds(0, 0, 0), 2);
        due("too far", x.seconds(2, 2, 0), -2 + 0);
        due("with the hook", x.seconds(2, 2, 1), 7);
        x.foot(1);
        due("leaning", x.seconds(2, 2, 0), 7);
        int[][] bad = {{5, 0, 0}, {-1, 0, 0}, {0, 3, 0}, {0, -1, 0}, {0, 0, 2}, {0, 0, -1}};
        for (int[] b : bad) due("others", x.seconds(b[0], b[1], b[2]), -1);
    }

    private static void boths() {
        fresh(22, "f10,5;f14,5;f18,5;f14,4@1;f50,5;s8,5;s20,5");
        x.set(0, 6);
        due("both", x.both(0, 1), 2);
        dueRow("alone", 1, 4);
        due("the other way", x.both(1, 0), 2);
        dueRow("alone", 4, 1);
        due("alike", x.both(1, 1), -1);
        due("none such", x.both(0, 2), -1);
        due("none such", x.both(-1, 0), -1);
        x.sleep();
        due("ripe", x.both(0, 1), 2 | 8);
        x.move(0);
        x.pick(1, 0);
        due("wanted alone", x.both(0, 1), 8);
    }

    private static void nearests() {
        fresh(23, "f10,10;f99,99;f31,10;s20,10;s0,10;s30,10");
        due("the first of equal ones", x.nearest(0), 0);
        dueRow("how far", 2);
        due("by arm", x.nearest(2), 2);
        dueRow("how far", 0);
        due("from none", x.nearest(1), -2);
        dueRow("row stays", 0);
        due("none such", x.nearest(3), -1);
        due("none such", x.nearest(-1), -1);
    }

    private static void fewests() {
        fresh(24, "f10,5;f20,5;f30,5;f40,5;s10,5;s20,5;s30,5;s40,5;s15,5;s35,5");
        x.set(0, 5);
        due("two", x.fewest(), 2);
        dueRow("they", 4, 5);
        x.set(0, 4);
        due("four", x.fewest(), 4);
        dueRow("they", 0, 1, 2, 3);
        x.set(0, 15);
        due("two", x.fewest(), 2);
        dueRow("the least row, not the least bits", 0, 2);
        fresh(24, "f10,5;f20,5;f30,5;f40,5;s25,5;s15,5;s35,5;s5,5;s45,5");
        x.set(0, 5);
        x.set(1, 10);
        due("two", x.fewest(), 2);
        dueRow("they", 1, 2);
        x.foot(1);
        due("one at the foot", x.fewest(), 1);
        dueRow("it", 0);
        due("none wanted", x.set(0, 0) + x.foot(0) + x.fewest(), 5 + 1 + 0);
        dueRow("none");
        fresh(24, "f0,0;f9,0;s4,0;s0,0;s9,0;s5,0");
        x.set(0, 4);
        due("two", x.fewest(), 2);
        dueRow("0 and 2 come ahead of 1 and 2, 1 and 3", 0, 2);
    }

    private static void neededOnes() {
        fresh(25, TREE);
        due("needed", x.needed(), 2);
        dueRow("from just one", 8);
        x.foot(1);
        x.sleep();
        due("needed", x.needed(), 2 | 4);
        dueRow("from just one", 4 | 8);
        x.move(1);
        x.pick(3, 0);
        due("wanted alone", x.needed(), 4);
        dueRow("from just one", 4);
    }

    private static void birdsLeft() {
        fresh(26, "f10,5*3;f20,5*4;f30,5*5;f90,5*9;f10,6*9@1;s10,5;s20,5;s30,5;s25,5");
        x.set(0, 5);
        due("none", x.birds(0), 12);
        dueRow("none", 0, 7);
        due("one", x.birds(1), 3);
        dueRow("one", 8, 1);
        due("two", x.birds(2), 0);
        dueRow("two", 1 | 8, 0);
        due("eight", x.birds(8), 0);
        dueRow("the fewest", 1 | 8, 0);
        due("nine", x.birds(9), -1);
        due("below", x.birds(-1), -1);
        x.sheet(2, 1, 0, 0);
        due("no worth", x.birds(4), 0);
        dueRow("none is the fewest", 0, 7);
        fresh(26, "f10,5*3;f20,5*3;s20,5;s10,5");
        x.set(0, 5);
        due("of as good ones", x.birds(1), 3);
        dueRow("the least bits", 1, 1);
    }

    private static void nexts() {
        fresh(27, "f10,5*3;f20,5*4;f30,5*4;s10,5;s20,5;s30,5");
        x.set(0, 5);
        due("the first of equal ones", x.next(0), 1);
        dueRow("left", 7, 11);
        due("with 1", x.next(2), 2);
        dueRow("left", 3, 7);
        due("with 1 and 2", x.next(6), 0);
        dueRow("left", 0, 3);
        due("none besides", x.next(7), -2);
        dueRow("row stays", 0, 3);
        due("none such", x.next(8), -1);
        due("none such", x.next(-1), -1);
        fresh(27);
        due("no standings", x.next(0), -2);
    }

    private static void routes() {
        fresh(28, "s10,0;s50,0;s20,0;s40,0;s30,0");
        due("from none", x.route(31), 45 + 40);
        dueRow("one end first: the least row", 0, 2, 4, 3, 1);
        x.move(3);
        due("from 3", x.route(31), 36 + 10 + 40);
        dueRow("the nearer end first", 1, 4, 2, 0);
        due("where it is is left out", x.route(8), 0);
        dueRow("none");
        due("one", x.route(1), 39);
        dueRow("one", 0);
        x.set(3, 0);
        due("moving 0", x.route(31), 36);
        dueRow("rising", 0, 1, 2, 4);
        due("none such", x.route(32), -1);
        due("none such", x.route(-1), -1);
        dueRow("row stays", 0, 1, 2, 4);
        fresh(28, "s30,0;s30,0;s10,0;s50,0");
        x.move(0);
        due("both ends as far", x.route(14), 27 + 60);
        dueRow("the least row", 1, 2, 3);
        fresh(28, "s70,0;s60,0;s50,0;s40,0;s30,0;s20,0;s10,0;s0,0");
        due("all eight from none", x.route(255), 72 + 70);
        dueRow("all eight from none", 0, 1, 2, 3, 4, 5, 6, 7);
    }

    private static void works() {
        fresh(29, TREE);
        due("0 and 1", x.work(3), 51);
        dueRow("moves, picking, down", 36, 7, 8);
        due("none", x.work(0), 0);
        dueRow("none", 0, 0, 0);
        due("one that has none of its own", x.work(7), 45 + 7 + 8);
        dueRow("it is moved to yet", 45, 7, 8);
        x.set(4, 1);
        due("room 1", x.work(3), 36 + 7 + 3 * 4);
        x.set(4, 2);
        due("room 2", x.work(3), 36 + 7 + 2 * 4);
        x.move(0);
        due("from where it is", x.work(3), 27 + 7 + 8);
        due("none such", x.work(8), -1);
        due("none such", x.work(-8), -1);
        fresh(29, "f10,5;s10,95;s10,5");
        due("of equal ones the first", x.work(3), 18 + 2 + 13);
        rule("9-s");
        due("the one that takes the fewest", x.work(3), 18 + 8 + 4);
    }

    private static void soonests() {
        fresh(30, TREE);
        due("1 and 2", x.soonest(), 47);
        dueRow("bits", 6);
        x.set(3, 0);
        due("moving 0", x.soonest(), 18 + 7 + 8);
        dueRow("bits", 3);
        fresh(30, "f10,5;s11,5;s9,5;s10,6");
        due("of as soon ones the least", x.soonest(), 9 + 2 + 4);
        dueRow("bits", 1);
        x.move(2);
        due("where it is", x.soonest(), 2 + 4);
        dueRow("bits", 4);
        x.pick(0, 0);
        due("none wanted", x.soonest(), 0);
        dueRow("the fewest", 0);
        fresh(30, "f0,5;f20,5;s0,1;s20,1;s10,5;s0,11");
        x.set(0, 10);
        rule("1+(s=2)*20");
        due("more standings may be sooner", x.soonest(), Math.min(9 + 42 + 4, 9 + 29 + 2 + 8));
        dueRow("bits", 3);
    }

    private static void paysOf() {
        fresh(31, TREE);
        due("1", x.pays(1), 4);
        dueRow("1", 9, 2, 4);
        due("0", x.pays(0), 8);
        x.move(1);
        due("0", x.pays(0), 8);
        dueRow("from 1", 27, 5, 4);
        x.set(4, 1);
        due("room 1", x.pays(0), 8);
        dueRow("down twice", 27, 5, 8);
        due("where it is", x.pays(1), 4);
        dueRow("no move", 0, 2, 4);
        x.pick(3, 0);
        due("none left", x.pays(1), 0);
        dueRow("nothing to do", 0, 0, 0);
        due("none such", x.pays(3), -1);
        due("none such", x.pays(-1), -1);
        fresh(31, "f10,5*5;f10,9*3;s10,5");
        x.move(0);
        x.pick(1, 0);
        due("bruised counts half", x.pays(0), 2);
    }

    private static void tripsOf() {
        fresh(32, "f10,1;f10,2;f10,3;f10,4;f10,5;f50,5;s10,5;s50,5");
        x.set(4, 2);
        due("five by two", x.trips(0), 2);
        dueRow("one is left", 1);
        x.set(4, 5);
        due("five by five", x.trips(0), 0);
        dueRow("all are in it", 5);
        x.set(4, 2);
        x.move(0);
        x.pick(0, 0);
        due("four and one in it", x.trips(0), 2);
        dueRow("one is left", 1);
        due("elsewhere it is empty", x.trips(1), 0);
        dueRow("one", 1);
        x.pick(1, 0);
        x.set(4, 1);
        due("three, more in it than fit", x.trips(0), 3);
        dueRow("one", 1);
        x.set(4, 9);
        x.pick(2, 0);
        x.pick(3, 0);
        x.pick(4, 0);
        due("none is wanted", x.trips(0), 0);
        dueRow("as it is", 5);
        due("none such", x.trips(2), -1);
        due("none such", x.trips(-1), -1);
    }

    private static void helpsOf() {
        fresh(33, "f10,5;f30,5;s10,5;s30,5;s20,5");
        x.set(1, 1);
        due("as many", x.helps(), 0);
        dueRow("wanted", 2, 2);
        x.set(1, 2);
        due("one less", x.helps(), 1);
        dueRow("wanted", 2, 2);
        x.foot(1);
        due("as the foot is does not matter", x.helps(), 1);
        fresh(33, "f10,5;f39,5;s10,5;s30,5");
        due("one more", x.helps(), -1);
        dueRow("wanted", 1, 2);
    }

    private static void hookedOnes() {
        fresh(34, "f10,5;f19,5;f20,5;f22,5;f19,6@1;f90,5;s10,5;s31,5");
        due("three", x.hooked(), 2 | 4 | 8);
        dueRow("of equal ones the first", 0, 3);
        x.set(1, 1);
        x.foot(1);
        due("as the foot is", x.hooked(), 4);
        dueRow("where", 0, 1);
        x.set(0, 11);
        due("none", x.hooked(), 0);
        dueRow("none", -1, 0);
        fresh(34, "f10,5;f20,5;f33,5;s1,5;s29,5");
        x.set(0, 3);
        x.set(2, 6);
        due("two", x.hooked(), 1 | 2 | 4);
        dueRow("the most", 1, 2);
    }

    private static void brokenOnes() {
        fresh(35, TREE);
        due("without 1", x.broken(1), 1);
        dueRow("lost", 8);
        due("without 0", x.broken(0), 2);
        dueRow("none lost", 0);
        due("none such", x.broken(3), -1);
        due("none such", x.broken(-1), -1);
        fresh(35, "f10,5;s10,5");
        due("without all", x.broken(0), 0);
        dueRow("lost", 1);
    }

    private static void sweeps() {
        fresh(36, TREE);
        due("46", x.sweep(46), 8);
        dueRow("46", 1, 18);
        due("47", x.sweep(47), 12);
        dueRow("47", 6, 47);
        due("17", x.sweep(17), 4);
        dueRow("17", 2, 15);
        due("0", x.sweep(0), 0);
        dueRow("0", 0, 0);
        due("9999", x.sweep(9999), 12);
        dueRow("the least work", 6, 47);
        due("10000", x.sweep(10000), -1);
        due("below", x.sweep(-1), -1);
        fresh(36, "f10,5;s11,5;s9,5");
        due("as good", x.sweep(50), 1);
        dueRow("the least bits", 1, 15);
    }

    private static void dusks() {
        fresh(37, "f10,5*3;f10,9*5;f10,13*7;f10,5*3;f10,4*0;f10,6@1;s10,5");
        due("nowhere", x.dusk(9), -2);
        due("another", x.dusk(301), -1);
        due("below", x.dusk(-1), -1);
        x.move(0);
        due("another", x.dusk(301), -1);
        due("0", x.dusk(0), 0);
        dueRow("0", 0, 0);
        due("1", x.dusk(1), 0);
        due("2", x.dusk(2), 3);
        dueRow("the least bits", 1, 2);
        due("4", x.dusk(4), 6);
        dueRow("4", 9, 4);
        due("5", x.dusk(5), 6);
        due("6", x.dusk(6), 8);
        dueRow("6", 3, 6);
        due("300", x.dusk(300), 18);
        dueRow("the fewest seconds: without 4", 15, 14);
        x.pick(2, 0);
        due("bruised ones count half", x.dusk(300), 1 + 2 + 1);
        x.set(4, 1);
        due("room is left aside", x.dusk(300), 4);
        rule("k+99");
        due("as many seconds as are asked", x.dusk(197), 2);
        dueRow("one", 2, 99);
    }

    private static void gentleOnes() {
        fresh(38, "f10,9;f10,5;f11,7;f13,9;f13,2@1;f30,3;f10,13;s10,5");
        due("nowhere", x.gentle(), -2);
        x.move(0);
        x.set(4, 1);
        due("four", x.gentle(), 4);
        dueRow("the least row", 1, 2, 0, 6);
        x.sleep();
        x.move(0);
        due("six", x.gentle(), 6);
        dueRow("the least row", 1, 2, 0, 4, 3, 6);
        due("questions change nothing", x.count(5), 127);
        fresh(38, "f10,9;f10,5@1;s10,5");
        x.move(0);
        due("none", x.gentle(), 0);
        dueRow("none");
        fresh(38, "f1,8;f1,7;f1,6;f1,5;f1,4;f1,3;f1,2;f1,1;s1,9", "f9,8;f9,7;f9,6;f9,5;f9,4;f9,3;f9,2;f9,1");
        x.move(0);
        due("all sixteen", x.gentle(), 16);
        dueRow("all sixteen", 7, 6, 5, 4, 3, 2, 1, 0, 15, 14, 13, 12, 11, 10, 9, 8);
    }

    private static void harms() {
        fresh(39, "f10,9*5;f10,5*5;f11,3*8@1;f10,1*9;f12,1*9;s10,5");
        due("nowhere", x.harm(), -2);
        x.move(0);
        due("by numbers", x.harm(), 2 | 4 | 8);
        dueRow("by how much", 3 + 4 + 5);
        due("questions change nothing", x.count(9), 0);
        fresh(39, "f10,1;f10,5;f10,9;s10,5");
        x.move(0);
        due("from below: none", x.harm(), 0);
        dueRow("none", 0);
        fresh(39, "f10,9*5;f10,5*5;f10,8;s10,5");
        x.move(0);
        x.pick(0, 0);
        due("1 lies below 2, but goes first", x.harm(), 0);
        fresh(39, "f10,9*5;f10,8;f10,5*5;s10,5");
        x.move(0);
        x.pick(0, 0);
        due("hit once more", x.harm(), 4);
        dueRow("it is worth no less for that", 0);
    }

    private static void shares() {
        fresh(40, TREE);
        due("0 and 1", x.share(3), 5);
        dueRow("the one, the other", 1, 2);
        due("0, 1, 2", x.share(7), 5);
        dueRow("the least bits", 1, 2);
        due("2 and 1", x.share(6), 6);
        dueRow("the least bits: 1", 2, 6);
        due("one", x.share(4), 6);
        dueRow("the other has it", 0, 6);
        due("none", x.share(0), 0);
        dueRow("none", 0, 0);
        due("none such", x.share(8), -1);
        due("none such", x.share(-1), -1);
        fresh(40, "f10,5;f30,5;f50,5;s10,5;s30,5;s50,5");
        rule("(s+1)*10");
        due("10 and 20, 30", x.share(7), 30);
        dueRow("the least", 3, 30);
    }

    private static void ripensFirst() {
        fresh(41, "f10,5@1;f10,5@3;f10,5@3;f30,5@9;f60,5@2;s10,5;s30,5");
        due("two", x.ripens(), 2);
        dueRow("in day 3", 3, 2);
        x.sleep();
        x.sleep();
        due("as many now: the first", x.ripens(), 2);
        dueRow("day 2", 2, 2);
        x.sleep();
        due("four now", x.ripens(), 4);
        dueRow("day 3", 3, 2);
        x.move(0);
        x.shake();
        due("what hangs", x.ripens(), 1);
        dueRow("day 3", 3, 1);
        fresh(41);
        due("no fruits", x.ripens(), 0);
        dueRow("now", 0, 0);
    }

    private static void ondaysOf() {
        fresh(42, "f10,5@1;f30,5@3;f10,5@3;f30,5;f90,5@3;s10,5;s30,5;s20,5");
        due("0", x.ondays(0), 1);
        dueRow("0", 1);
        due("3", x.ondays(3), 2);
        dueRow("3", 0, 1);
        due("2", x.ondays(2), 0);
        dueRow("2");
        x.sleep();
        due("gone by", x.ondays(0), -1);
        due("now: all that are ripe", x.ondays(1), 2);
        due("10", x.ondays(10), -1);
        x.set(1, 9);
        x.foot(1);
        due("as the foot is", x.ondays(3), 1);
        dueRow("3", 2);
    }

    private static void allripes() {
        fresh(43, "f10,5@1;f30,5*6@7;f10,9*5;f10,4*9@2;s10,5");
        due("7", x.allripe(), 7);
        dueRow("not now", 3, 16);
        x.move(0);
        x.pick(2, 0);
        x.allripe();
        dueRow("bruised ones count half", 3, 0 + 6 + 4);
        x.sleep();
        x.sleep();
        due("7", x.allripe(), 7);
        dueRow("not now", 1, 6);
        for (int i = 0; i < 6; i++) x.sleep();
        due("now", x.allripe(), 8);
        dueRow("none", 0, 0);
    }

    private static void marksInGrass() {
        fresh(44, TREE);
        due("just", x.marks(10, 0), 1);
        due("near", x.marks(15, 2), 4);
        due("all", x.marks(0, 99), 7);
        due("none", x.marks(99, 70), 0);
        due("just as far", x.marks(99, 71), 2);
        int[][] bad = {{100, 0}, {-1, 0}, {0, 100}, {0, -1}, {Integer.MIN_VALUE, 0}};
        for (int[] b : bad) due("others", x.marks(b[0], b[1]), -1);
    }

    private static void grassRows() {
        fresh(45, TREE);
        due("three marks", grass("10,16,10", 2), 1);
        dueRow("three marks", 0, 2, 0);
        due("off by 6", grass("10,16,10", 6), 2);
        dueRow("off by 6", 0, 2, 0);
        due("all of 6", grass("1,2,3,4,5,06", 99), 3 * 32);
        dueRow("all of 6", 0, 1, 0, 1, 0, 1);
        due("just", grass("28", 0), 1);
        dueRow("just", 1);
        due("like the one ahead", grass("28,28", 0), 0);
        dueRow("none");
        due("it ends well", grass("16,99", 99), 6);
        due("the text is emptied", x.count(13), 0);
        String[] bad = {"", "x", ",", "1,", "1,,", "123", "1,2,3,4,5,6,7", "1,2,3,4,5,6,", "1 ", "1;2", "1,2,3,4,5,6,x"};
        int[] at = {0, 0, 0, 2, 2, 2, 12, 12, 1, 1, 12};
        for (int i = 0; i < bad.length; i++) due(bad[i], grass(bad[i], 1), -1 - at[i]);
        due("another e", grass("x", 100), -100);
        due("the text is emptied", x.count(13), 0);
        due("another e", grass("1", -1), -100);
        fresh(45);
        due("no standings", grass("1", 99), 0);
        dueRow("none");
    }

    private static void fitting() {
        fresh(46, TREE);
        due("0 and 1", x.fits(3), 3);
        dueRow("smallest, greatest", 1, 5);
        due("0 and 3", x.fits(9), 3);
        dueRow("smallest, greatest", 3, 7);
        due("none", x.fits(0), 1);
        dueRow("none", 0, 0);
        due("out of reach", x.fits(16), 0);
        dueRow("none", -1, -1);
        x.foot(1);
        due("as the foot is", x.fits(4), 1);
        dueRow("one", 4, 4);
        due("none such", x.fits(32), -1);
        due("none such", x.fits(-1), -1);
        fresh(46, "f10,5;f20,5;s15,5;s10,5;s20,5");
        x.set(0, 5);
        due("both", x.fits(3), 5);
        dueRow("least of as small ones", 1, 7);
    }

    private static void leanings() {
        fresh(47, TREE);
        due("7", x.leaned(2, 0), 7);
        due("0", x.leaned(0, 0), 0);
        due("16", x.leaned(4, 1), 16);
        due("not by 30", x.leaned(4, 0), -2);
        x.set(0, 9);
        due("by 30", x.leaned(4, 0), 30);
        due("none such", x.leaned(5, 0), -1);
        due("none such", x.leaned(0, 3), -1);
        due("none such", x.leaned(-1, 0), -1);
        due("none such", x.leaned(0, -1), -1);
    }

    private static void autumns() {
        fresh(48, "f10,9*5;f10,5*5@1;f11,3*8@2;f10,1*9@9;f12,1*9@9;s10,5");
        due("none falls", x.autumn(1, 30, 0), 0);
        dueRow("none", 0, 0, -1);
        due("all ripe ones", x.autumn(1, 1, 10), 2);
        dueRow("0 and 1", 3, 10, 1);
        due("9 days", x.autumn(-5, 9, 10), 5);
        dueRow("the first of the most", 31, 36, 1);
        x.move(0);
        x.pick(0, 0);
        due("8 days", x.autumn(0, 8, 10), 2);
        dueRow("bruised ones count half", 6, 2 + 4, 1);
        due("9 at most", x.autumn(0, 30, 10), 4);
        dueRow("in the ninth", 30, 2 + 4 + 4 + 9, 9);
        x.undo();
        int r = 77;
        int want = 0;
        for (int f = 0; f < 2; f++) {
            r = r * 1103515245 + 12345;
            want |= (r >>> 16) % 10 < 5 ? 1 << f : 0;
        }
        due("by the draws", x.autumn(77, 1, 5), Integer.bitCount(want));
        due("which", row(0), want);
        due("it changed nothing", x.count(5), 31);
        int[][] bad = {{0, 5}, {31, 5}, {1, -1}, {1, 11}};
        for (int[] b : bad) due("others", x.autumn(1, b[0], b[1]), -1);
    }

    private static void keeps() {
        fresh(49);
        due("0", x.keep(0), true);
        due("1", x.keep(1), true);
        due("2", x.keep(2), false);
        due("-1", x.keep(-1), false);
        x.foot(1);
        x.keep(1);
        x.foot(0);
        x.again(1);
        due("the later one", x.foot(1), 1);
    }

    private static void agains() {
        fresh(50, TREE);
        due("nothing kept", x.again(0), false);
        due("no such", x.again(2), false);
        due("no such", x.again(-1), false);
        x.move(0);
        x.pick(1, 0);
        x.down();
        x.foot(1);
        x.keep(1);
        x.shake();
        x.sleep();
        x.foot(0);
        due("under another number", x.again(0), false);
        due("again", x.again(1), true);
        int[] due = {5, 3, 0, 0, 16, 29, 0, 2, 0, 1, 5, 0};
        for (int i = 0; i < due.length; i++) due("count(" + i + ")", x.count(i), due[i]);
        due("foot", x.foot(1), 1);
        x.sleep();
        due("once more", x.again(1), true);
        due("an empty orchard", orchard(""), 0);
        due("a refused one", orchard("q"), -1);
        due("are nothing", x.again(1), true);
        due("a standing", orchard("s1,1"), 1);
        due("came", x.again(1), false);
        x.keep(1);
        due("a fruit", orchard("f1,1"), 1);
        due("came", x.again(1), false);
    }

    private static void counts() {
        fresh(51, TREE);
        x.move(2);
        x.pick(1, 0);
        x.down();
        x.pick(0, 0);
        x.reached(0);
        x.sign(0);
        int[] due = {5, 3, 2, 0, 9 + 3 + 5 + 3, 28, 1, 2, 0, 1, 5, 4, 2, 4};
        for (int i = 0; i < due.length; i++) due("count(" + i + ")", x.count(i), due[i]);
        x.down();
        due("bruised counts half in the basket", x.count(10), 5 + 1);
        due("14", x.count(14), -100);
        due("-1", x.count(-1), -100);
        due("least", x.count(Integer.MIN_VALUE), -100);
    }

    private static void rows() {
        fresh(52, TREE);
        due("none yet", row(0), MISSING);
        x.reached(0);
        due("0", row(0), 3);
        due("1", row(1), 7);
        due("2", row(2), MISSING);
        due("-1", row(-1), MISSING);
        due("least", row(Integer.MIN_VALUE), MISSING);
        x.move(0);
        x.from(0, 0);
        x.seconds(0, 0, 0);
        x.leaned(0, 0);
        x.marks(1, 1);
        due("calls that tell none leave it", row(1), 7);
        x.reached(9);
        due("refused ones, too", row(1), 7);
    }
}
