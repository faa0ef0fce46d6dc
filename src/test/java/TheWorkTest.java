/** Promises 10 to 17, sentence by sentence: for each bound the last that is allowed, and the first that is not. */
public final class TheWorkTest extends Sentences {
    private static final String TREE = "f10,5*3;f10,9*5;f12,20*2@1;f30,8*4;f40,30*9;s10,6;s28,10;s16,12";

    public static void main(String[] args) throws Exception {
        new TheWorkTest().judge(10, 17);
    }

    @Override
    void tests() {
        move();
        foot();
        pick();
        pickRefused();
        down();
        shake();
        sleep();
        day();
        dayThatStops();
        dayThatCannotStand();
        undo();
        undoOfEach();
        undoOfTwelve();
        undoForgotten();
    }

    private void move() {
        says(10, "The ladder is set to a STANDING: SECONDS that takes", TREE);
        due("from none", x.move(1), 9);
        due("where it is", x.count(2), 1);
        due("CLOCK", x.count(4), 9);
        due("from 28 to 16", x.move(2), 21);
        due("where it is", x.count(2), 2);
        due("CLOCK", x.count(4), 30);
        says(10, "(with going DOWN, if something is in THE APRON: that is in the BASKET then).", TREE, "f28,19;f28,12");
        x.move(1);
        due("nothing is in it", x.move(0), 27);
        x.move(1);
        x.pick(3, 0);
        x.pick(6, 0);
        int before = x.count(4);
        due("something is: DOWN from where it was", x.move(0), 27 + 4);
        due("CLOCK", x.count(4) - before, 31);
        due("in the BASKET", x.count(7), 8 | 64);
        due("THE APRON", x.count(6), 0);
        due("empty again", x.move(1), 27);
        says(10, "-2: it is there", TREE);
        x.move(0);
        x.pick(0, 0);
        String before2 = state();
        due("it is there", x.move(0), -2);
        due("nothing changed", state(), before2);
        says(10, "NONE: none such.", TREE);
        due("the last", x.move(2), 9);
        for (int s : new int[] {3, 8, -1, LEAST, MOST}) due("move(" + s + ")", x.move(s), -1);
        due("where it was", x.count(2), 2);
        x.sleep();
        due("nowhere is no STANDING", x.move(-1), -1);
        fresh();
        due("no STANDINGS", x.move(0), -1);
    }

    private void foot() {
        says(11, "One is at the foot (1) or not (0) from now on: what it was.", "f11,5;s0,5");
        due("not, as ever", x.foot(0), 0);
        due("by hand", x.from(0, 0), 0);
        due("one is", x.foot(1), 0);
        due("by leaning", x.from(0, 0), 1);
        due("one is, as before", x.foot(1), 1);
        x.sleep();
        due("from now on", x.from(0, 0), 1);
        due("not", x.foot(0), 1);
        due("by hand", x.from(0, 0), 0);
        says(11, "Refused: others.", "f11,5;s0,5");
        x.foot(1);
        for (int v : new int[] {2, -1, LEAST, MOST}) due("foot(" + v + ")", x.foot(v), -1);
        due("nothing changed", x.from(0, 0), 1);
        due("none of them can be undone", x.count(11), 1);
    }

    private void pick() {
        says(12, "A FRUIT is PICKED by hand (0) or with the hook (1): SECONDS.", "f18,5;f23,5;f24,5;s10,5");
        rule("d+o*20");
        x.move(0);
        due("by hand", x.pick(0, 0), 8);
        due("with the hook", x.pick(1, 1), 33);
        due("CLOCK", x.count(4), 9 + 41);
        due("THE APRON", x.count(6), 3);
        due("too far for it", x.pick(2, 1), -4);
        says(12, "-2: it does not HANG", "f10,5;f10,9;s10,5");
        x.move(0);
        x.pick(0, 0);
        due("in THE APRON", x.pick(0, 0), -2);
        x.down();
        due("in the BASKET", x.pick(0, 0), -2);
        due("it HANGS", x.pick(1, 0), 4);
        x.undo();
        x.shake();
        due("on the GROUND", x.pick(1, 0), -2);
        says(12, "-3: it is not RIPE", "f10,5@1;f10,5@2;f10,5@9;s10,5");
        x.sleep();
        x.move(0);
        due("from this DAY on", x.pick(0, 0), 2);
        due("from the next on", x.pick(1, 0), -3);
        due("from DAY 9 on", x.pick(2, 0), -3);
        says(12, "-4: not REACHED (or the ladder is nowhere)", "f18,5;f19,5;f10,13;f10,14;f2,5;f1,5;f23,5;f24,5;s10,5");
        due("nowhere", x.pick(0, 0), -4);
        due("nowhere, with the hook", x.pick(0, 1), -4);
        x.move(0);
        int[] due = {4, -4, 6, -4, 4, -4, -4, -4};
        for (int f = 0; f < due.length; f++) due("by hand: FRUIT " + f, x.pick(f, 0), due[f]);
        due("with the hook: 13", x.pick(6, 1), 5);
        due("with the hook: 14", x.pick(7, 1), -4);
        x.foot(1);
        due("leaning: 9", x.pick(1, 0), 4);
        x.sleep();
        due("nowhere again", x.pick(3, 0), -4);
    }

    private void pickRefused() {
        says(12, "-5: THE APRON is full", "f10,5;f10,5;f10,5;f10,5;s10,5");
        x.set(4, 2);
        x.move(0);
        x.pick(0, 0);
        due("room for one", x.pick(1, 0), 2);
        due("full", x.pick(2, 0), -5);
        due("full, with the hook", x.pick(2, 1), -5);
        x.set(4, 1);
        due("more than full", x.pick(2, 0), -5);
        x.set(4, 3);
        due("room for one", x.pick(2, 0), 2);
        due("full", x.pick(3, 0), -5);
        x.down();
        due("empty", x.pick(3, 0), 2);
        says(12, "(asked in this order)", "f10,5;f10,5@1;f50,5@1;f50,5;s10,5");
        due("not RIPE, nowhere", x.pick(1, 0), -3);
        x.set(4, 1);
        x.move(0);
        x.pick(0, 0);
        due("does not HANG, full", x.pick(0, 0), -2);
        due("not RIPE, full", x.pick(1, 0), -3);
        due("not RIPE, not REACHED, full", x.pick(2, 0), -3);
        due("not REACHED, full", x.pick(3, 0), -4);
        x.sleep();
        x.set(0, 0);
        due("does not HANG, nowhere", x.pick(0, 0), -2);
        orchard("f50,5*1@9;s50,5;s90,5");
        x.move(1);
        due("it HANGS, is RIPE, REACHED", x.pick(3, 0), 2);
        x.move(2);
        due("does not HANG, not REACHED", x.pick(3, 0), -2);
        says(12, "NONE: others.", "f10,5;f10,5;s10,5");
        int[][] others = {{2, 0}, {16, 0}, {-1, 0}, {LEAST, 0}, {MOST, 0}, {0, 2}, {0, -1}, {0, LEAST}, {0, MOST}, {2, 2}};
        for (int[] o : others) due("nowhere: pick(" + o[0] + ", " + o[1] + ")", x.pick(o[0], o[1]), -1);
        x.move(0);
        for (int[] o : others) due("pick(" + o[0] + ", " + o[1] + ")", x.pick(o[0], o[1]), -1);
        due("the last", x.pick(1, 1), 2);
        due("one that does not HANG, by neither", x.pick(1, 2), -1);
    }

    private void down() {
        says(13, "Going DOWN: all in THE APRON is in the BASKET: how many.", "f10,5;f10,5;f10,5;s10,11");
        x.move(0);
        x.pick(2, 0);
        due("one", x.down(), 1);
        due("the BASKET", x.count(7), 4);
        x.pick(0, 0);
        x.pick(1, 0);
        int before = x.count(4);
        due("two", x.down(), 2);
        due("the BASKET", x.count(7), 7);
        due("THE APRON", x.count(6), 0);
        due("SECONDS", x.count(4) - before, 5);
        due("where the ladder is", x.count(2), 0);
        fresh("f1,1;f1,1;f1,1;f1,1;f1,1;f1,1;f1,1;f1,1;s1,1", "f1,1;f1,1;f1,1;f1,1;f1,1;f1,1;f1,1;f1,1");
        x.set(4, 16);
        x.move(0);
        for (int f = 0; f < 16; f++) x.pick(f, 0);
        due("16", x.down(), 16);
        says(13, "-2: the ladder is nowhere, or THE APRON is empty.", "f10,5;s10,11");
        due("nowhere", x.down(), -2);
        x.move(0);
        due("empty", x.down(), -2);
        due("no SECONDS", x.count(4), 9);
        x.pick(0, 0);
        due("not empty", x.down(), 1);
        due("empty again", x.down(), -2);
        x.undo();
        x.sleep();
        due("nowhere again", x.down(), -2);
    }

    private void shake() {
        says(14, "The tree is shaken from where the ladder is (5 SECONDS)", "f10,5;s10,5;s90,5");
        x.move(1);
        due("from elsewhere", x.shake(), 0);
        due("5 SECONDS", x.count(4), 14);
        x.move(0);
        int before = x.count(4);
        due("from there", x.shake(), 1);
        due("5 SECONDS", x.count(4) - before, 5);
        says(14, ": all RIPE ones that HANG and are REACHED by hand are on the GROUND, BRUISED: how many",
            "f18,5;f19,5;f2,5;f1,5;f10,13;f10,14;f10,5@1;f10,5;f11,5;s10,5");
        x.move(0);
        x.pick(7, 0);
        due("four and one that is not", x.shake(), 4);
        due("on the GROUND", x.count(8), 1 | 4 | 16 | 256);
        due("BRUISED, they at least", x.count(9) & (1 | 4 | 16 | 256), 1 | 4 | 16 | 256);
        due("in THE APRON", x.count(6), 128);
        due("once more: none", x.shake(), 0);
        x.foot(1);
        due("leaning", x.shake(), 3);
        due("what HANGS", x.count(5), 64);
        fresh("f10,5@1;f10,5@2;s10,5");
        x.sleep();
        x.move(0);
        due("RIPE from this DAY on, not from the next", x.shake(), 1);
        due("on the GROUND", x.count(8), 1);
        says(14, "all that were BELOW one of these, and HANG yet, are BRUISED, too.", "f10,9;f10,5@1;f9,4@1;f11,8@1;f12,3@1;f8,3@1;f10,9@1;f10,10@1;s10,5");
        x.move(0);
        due("one", x.shake(), 1);
        due("it, and those BELOW", x.count(9), 1 | 2 | 4 | 8);
        fresh("f10,25;f10,9;f10,5@1;s10,5");
        x.move(0);
        due("one", x.shake(), 1);
        due("none that is above it", x.count(9), 2 | 4);
        fresh("f30,9@1;f30,1@1;f10,5;f30,5;f30,4;s10,5");
        x.move(0);
        due("one", x.shake(), 1);
        due("none BELOW such as do not fall", x.count(9), 4);
        fresh("f10,9;f10,8;f10,5@1;s10,5");
        x.move(0);
        x.pick(1, 0);
        due("one", x.shake(), 1);
        due("none that does not HANG", x.count(9), 1 | 4);
        says(14, "-2: the ladder is nowhere.", "f10,5;s10,5");
        due("nowhere", x.shake(), -2);
        due("no SECONDS", x.count(4), 0);
        due("nothing to undo", x.count(11), 0);
        x.move(0);
        due("somewhere", x.shake(), 1);
        x.sleep();
        due("nowhere again", x.shake(), -2);
    }

    private void sleep() {
        says(15, "A DAY more (9 at most): the ladder is nowhere, THE APRON's are in the BASKET, CLOCK 0: which DAY it is.", "f10,5;f10,5;s10,5");
        x.move(0);
        x.pick(1, 0);
        due("DAY 1", x.sleep(), 1);
        due("nowhere", x.count(2), -1);
        due("in the BASKET", x.count(7), 2);
        due("THE APRON", x.count(6), 0);
        due("CLOCK", x.count(4), 0);
        due("DAY", x.count(3), 1);
        due("what HANGS yet", x.count(5), 1);
        for (int d = 2; d <= 9; d++) due("DAY " + d, x.sleep(), d);
        due("DAY", x.count(3), 9);
        says(15, "Refused: it is DAY 9.", "f10,5;s10,5");
        sleep(8);
        due("in DAY 8", x.sleep(), 9);
        x.move(0);
        x.pick(0, 0);
        due("in DAY 9", x.sleep(), -1);
        due("nothing changed", x.count(2) + x.count(4) * 10 + x.count(6) * 1000, 1110);
        due("DAY", x.count(3), 9);
    }

    private void day() {
        says(16, "THE TEXT tells A DAY (an empty one: nothing)", TREE);
        x.needed();
        due("nothing", day(""), 0);
        dueRow("nothing", 0, 0);
        due("nothing to undo", x.count(11), 0);
        says(16, "ACTS with ; between", TREE);
        due("one", day("m0"), 1);
        due("two", day("m1;m0"), 2);
        due("; ahead", day(";m1"), -1);
        due("; behind", day("m1;"), -1 - 3);
        due("two of them", day("m1;;m2"), -1 - 3);
        due("none between", day("m1m2"), -1 - 2);
        due("another sign", day("m1,m2"), -1 - 2);
        says(16, "m and a digit: move()", TREE);
        due("m2", day("m2"), 1);
        due("where it is", x.count(2), 2);
        due("CLOCK", x.count(4), 9);
        due("no digit", day("m"), -1 - 1);
        due("no digit, but more", day("m;d"), -1 - 1);
        due("2 digits", day("m01"), -1 - 2);
        due("0 is a digit", day("m0"), 1);
        due("9 is a digit, but no STANDING", day("m9"), 0);
        says(16, "p or h and a number (1 or 2 digits): pick() by hand, with the hook", TREE, "f19,6;f1,1;f1,1;f1,1;f1,1;f10,6");
        due("p and 1 digit", day("m0;p0"), 2);
        due("p and 2 digits", day("p01"), 1);
        due("the last of 2 digits", day("p10"), 1);
        due("THE APRON", x.count(6), 1 | 2 | 1024);
        due("p of what is too far by hand", day("p5"), 0);
        due("h of it", day("h05"), 1);
        due("CLOCK", x.count(4), 9 + 2 + 3 + 2 + 4);
        due("p and no digit", day("p"), -1 - 1);
        due("h and no digit", day("h;"), -1 - 1);
        due("p and 3 digits", day("p001"), -1 - 3);
        due("h and 3 digits", day("h001"), -1 - 3);
        due("no such", day("p99"), 0);
        says(16, "d: down()", TREE);
        due("d", day("m0;p0;d"), 3);
        due("the BASKET", x.count(7), 1);
        due("d and a digit", day("d1"), -1 - 1);
        says(16, "k: shake()", TREE);
        due("k", day("m0;k"), 2);
        due("on the GROUND", x.count(8), 3);
        due("k and a digit", day("k1"), -1 - 1);
        says(16, "a, or o: one is at the foot, or not", TREE);
        due("a", day("a"), 1);
        due("one is", isFootTaken(), 1);
        due("o", day("o"), 1);
        due("nobody is", isFootTaken(), 0);
        due("again, and again", day("o;a;a;o;o;a"), 6);
        due("one is", isFootTaken(), 1);
        says(16, "z: sleep()", TREE);
        due("z", day("m0;p0;z;z"), 4);
        due("DAY", x.count(3), 2);
        due("the BASKET", x.count(7), 1);
    }

    private void dayThatStops() {
        says(16, ": they are done one by one, till one can't be (it answers below 0): how many were done", TREE);
        due("all", day("m0;p0;p1;d"), 4);
        due("the first can't be", day("m0;p3;m1"), 0);
        due("where it is", x.count(2), 0);
        due("the second can't be", day("m1;d;p3"), 1);
        due("what is behind it is not done", x.count(6), 0);
        due("an ACT that answers 0 is done", day("k;o"), 2);
        String[] never = {"m1", "m3", "p9", "p2", "p4", "p0", "d"};
        for (String act : never) due(act, day(act + ";m0"), 0);
        sleep(9);
        due("z in DAY 9", day("a;z;m0"), 1);
        due("k where the ladder is nowhere", day("o;k;m0"), 1);
        fresh(TREE);
        x.set(4, 1);
        due("THE APRON is full", day("m0;p0;p1;d"), 2);
        says(16, "; the ROW: 1 if one could not be, else 0; how many were PICKED.", TREE);
        day("m0;p0;p1;d");
        dueRow("all", 0, 2);
        day("m0");
        dueRow("the first could not be", 1, 0);
        day("m1;p3;p4;p2");
        dueRow("the third could not be", 1, 1);
        day("d;a;o");
        dueRow("none PICKED", 0, 0);
        fresh(TREE);
        day("m2;h0;p1;k");
        dueRow("with the hook, too, but not what was shaken", 0, 2);
    }

    private void signsOfActs() {
        for (String behind : new String[] {"", "d;", "m1;", "p1;", "h12;"}) dueSigns(this::day, behind, "mphdkaoz");
        for (String behind : new String[] {"m", "p", "h"}) dueSigns(this::day, behind, DIGITS);
        for (String behind : new String[] {"p1", "h1"}) dueSigns(this::day, behind, DIGITS + ";");
        for (String behind : new String[] {"m1", "p12", "h12", "d", "k", "a", "o", "z"}) dueSigns(this::day, behind, ";");
    }

    private void dayThatCannotStand() {
        says(16, "-1 - p: the sign at p can't stand there (as orchard(); 60 signs)", TREE);
        String[] bad = {"x", "mx", "m1x", "px", "p1x", "p12x", "hx", "h1x", "h12x", "dx", "kx", "ax", "ox", "zx", "d;x", "M1", "p1;m1;D", " d", "d "};
        int[] at = {0, 1, 2, 1, 2, 3, 1, 2, 3, 1, 1, 1, 1, 1, 2, 0, 6, 0, 1};
        for (int i = 0; i < bad.length; i++) due(bad[i], day(bad[i]), -1 - at[i]);
        signsOfActs();
        fresh(TREE);
        String[] early = {"m", "p", "h", "d;", "k;", "a;", "o;", "z;", "m1;", "p1;", "p12;", "d;m"};
        for (String text : early) due(text, day(text), -1 - text.length());
        String acts = "a;".repeat(28);
        due("60 signs", day(acts + "a;m0"), 30);
        due("60 that end too early", day(acts + "a;o;"), -1 - 60);
        due("60 that end too early within an ACT", day(acts + "m0;p"), -1 - 60);
        due("61, 60 could end", day(acts + "a;m00"), -1 - 60);
        due("62, 60 could end", day(acts + "a;p0;a"), -1 - 60);
        due("61, 60 could end, or go on", day(acts + "a;p00"), -1 - 60);
        due("61, 60 could go on", day(acts + "a;o;a"), -1 - 60);
        due("61, 60 could go on within an ACT", day(acts + "m0;p1"), -1 - 60);
        due("61, the 60th can't stand", day(acts + "a;mx0"), -1 - 59);
        due("80 signs", day("a;".repeat(40)), -1 - 60);
        due("30 ACTS", day("a;".repeat(29) + "o"), 30);
        says(16, "nothing is done then.", TREE);
        x.work(7);
        String before = state() + theRow();
        due("the last sign can't stand", day("a;m0;p0;x"), -1 - 8);
        due("it ends too early", day("a;m0;p0;"), -1 - 8);
        due("it is too long", day("m0;p0;" + "a;".repeat(28)), -1 - 60);
        due("nothing is done", state() + theRow(), before);
        due("THE TEXT is emptied", x.count(13), 0);
    }

    /** Nothing else may be asked meanwhile: foot() and undo() by which state() asks would note the moment, too. */
    private void doSteps(int many) {
        fresh(TREE);
        if (many > 0) x.move(0);
        if (many > 1) x.foot(1);
        if (many > 2) x.pick(1, 0);
        if (many > 3) x.down();
        if (many > 4) x.shake();
        if (many > 5) x.sleep();
        if (many > 6) day("m1;p3;o;z");
    }

    private void undo() {
        says(17, "The latest move(), foot(), pick(), down(), shake(), sleep(), day()", TREE);
        String[] states = new String[8];
        for (int done = 0; done <= 7; done++) {
            doSteps(done);
            states[done] = state();
        }
        for (int done = 1; done <= 7; done++) {
            doSteps(done);
            for (int left = done - 1; left >= 0; left--) due("left of " + done, x.undo(), left);
            due("all of " + done + " undone", state(), states[0]);
            doSteps(done);
            x.undo();
            due("one of " + done + " undone", state(), states[done - 1]);
        }
        says(17, "such as were done", TREE);
        x.move(3);
        x.foot(2);
        x.pick(0, 0);
        x.down();
        x.shake();
        day("d");
        due("nothing was", x.count(11), 0);
        x.move(0);
        x.move(0);
        x.pick(9, 0);
        x.pick(3, 0);
        x.down();
        due("one was", x.count(11), 1);
        x.foot(0);
        due("foot() that changed nothing was", x.count(11), 2);
        x.move(1);
        x.set(0, 0);
        x.shake();
        due("shake() by which none fell was", x.count(11), 4);
        sleep(9);
        due("nine DAYS more", x.count(11), 12);
        x.undo();
        x.undo();
        x.sleep();
        x.sleep();
        x.sleep();
        due("the refused one is none", x.undo(), 11);
        due("DAY", x.count(3), 8);
    }

    private void undoOfEach() {
        says(17, "day() of which one ACT was done, as one)", TREE);
        String first = state();
        day("m0;p0;p1;d;z");
        due("five ACTS, as one", x.count(11), 1);
        due("left", x.undo(), 0);
        due("as ahead of it", state(), first);
        day("m0;m0");
        due("one was done", x.count(11), 1);
        day("m0;m1");
        due("none was done", x.count(11), 1);
        day("");
        due("none was told", x.count(11), 1);
        day("x");
        due("it can't stand", x.count(11), 1);
        x.undo();
        due("as ahead of it", state(), first);
        says(17, "is undone (where all FRUITS are, BRUISED, where the ladder is, the foot, DAY, CLOCK are as ahead of it)", TREE);
        x.move(0);
        x.pick(1, 0);
        String before = state();
        x.set(0, 7);
        x.set(4, 5);
        rule("d+9");
        x.foot(1);
        x.sleep();
        x.undo();
        x.undo();
        due("what was set and told stays", x.set(0, 8) * 10 + x.set(4, 6), 75);
        due("and THE RULE", x.seconds(0, 0, 0), 9);
        rule("");
        due("the rest is as ahead of it", state(), before);
        x.sheet(2, 1, 9, 0);
        x.undo();
        due("what a sheet told stays", fruit(0, 2), 9);
        due("FRUITS that HANG again", x.count(5), 31);
        due("and are not BRUISED", x.count(9), 0);
        says(17, ": how many are left that can be.", TREE);
        for (int i = 0; i < 5; i++) x.foot(1);
        for (int i = 4; i >= 0; i--) due("left", x.undo(), i);
        says(17, "Refused: none.", TREE);
        due("none yet", x.undo(), -1);
        x.foot(1);
        due("one", x.undo(), 0);
        String none = state();
        due("none", x.undo(), -1);
        due("nothing changed", state(), none);
    }

    private void undoOfTwelve() {
        says(17, "(of 12 that are kept, the latest ones", "s0,0;s1,0;s2,0");
        for (int i = 1; i <= 12; i++) {
            x.move(i % 3);
            due("kept", x.count(11), i);
        }
        x.keep(0);
        for (int i = 11; i >= 0; i--) due("12 are undone", x.undo(), i);
        due("all is as at first", x.count(2) * 100 + x.count(4), -100);
        due("no more", x.undo(), -1);
        for (int i = 1; i <= 12; i++) x.move(i % 3);
        due("a refused one behind 12", x.move(0) + x.down() + x.foot(2) + x.pick(0, 0), -6);
        for (int i = 11; i >= 0; i--) due("12 are undone", x.undo(), i);
        due("all is as at first", x.count(2) * 100 + x.count(4), -100);
        for (int i = 1; i <= 13; i++) x.move(i % 3);
        due("12 of 13", x.count(11), 12);
        for (int i = 11; i >= 0; i--) due("12 are undone", x.undo(), i);
        due("not the first", x.count(2) * 100 + x.count(4), 109);
        due("no more", x.undo(), -1);
        for (int i = 1; i <= 40; i++) x.move((i + 1) % 3);
        x.undo();
        x.move(0);
        due("12 again", x.count(11), 12);
        x.undo();
        due("the one ahead of it", x.count(2), 1);
        for (int i = 10; i >= 0; i--) due("11 more", x.undo(), i);
        due("no more", x.undo(), -1);
    }

    private void undoForgotten() {
        says(17, "(orchard() and again() forget them, if they are not refused", TREE);
        x.move(0);
        x.keep(0);
        due("keep() does not", x.count(11), 1);
        due("a refused again()", x.again(1), false);
        due("does not", x.count(11), 1);
        due("again()", x.again(0), true);
        due("forgets", x.count(11), 0);
        due("none", x.undo(), -1);
        due("where it is", x.count(2), 0);
        x.move(1);
        due("a refused orchard()", orchard("f1,1;x"), -1 - 5);
        due("does not", x.count(11), 1);
        due("orchard() of a STANDING", orchard("s1,1"), 1);
        due("forgets", x.undo(), -1);
        x.move(0);
        due("orchard() of a FRUIT", orchard("f1,1"), 1);
        due("forgets", x.undo(), -1);
        due("where it is", x.count(2), 0);
        x.foot(1);
        due("and then it begins anew", x.count(11), 1);
        says(17, "an empty orchard() does not.)", TREE);
        x.move(0);
        due("empty", orchard(""), 0);
        due("one is left", x.count(11), 1);
        due("it is undone", x.undo(), 0);
        due("nowhere", x.count(2), -1);
    }
}
