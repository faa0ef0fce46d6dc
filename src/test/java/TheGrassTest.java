/** Promises 44 to 52, sentence by sentence: for each bound the last that is allowed, and the first that is not. */
public final class TheGrassTest extends Sentences {
    private static final String TREE = "f10,5*3;f10,9*5;f12,20*2@1;f30,8*4;f40,30*9;s10,6;s28,10;s16,12";
    private static final String EIGHT = "s0,0;s10,0;s20,0;s30,0;s40,0;s50,0;s60,0;s70,0";

    public static void main(String[] args) throws Exception {
        new TheGrassTest().judge(44, 52);
    }

    @Override
    void tests() {
        marks();
        grass();
        grassThatCannotStand();
        fits();
        leaned();
        autumn();
        autumnOfDraws();
        autumnRefused();
        keep();
        again();
        count();
        row();
    }

    private void marks() {
        says(44, "A mark in the grass at X v (0 .. 99), give or take e (0 .. 99): STANDINGS (bits) whose FOOT it can be.", "s0,5;s50,5;s99,5");
        due("0, 0", x.marks(0, 0), 1);
        due("99, 0", x.marks(99, 0), 4);
        due("0, 49", x.marks(0, 49), 1);
        due("0, 50", x.marks(0, 50), 3);
        due("0, 98", x.marks(0, 98), 3);
        due("0, 99", x.marks(0, 99), 7);
        due("99, 99", x.marks(99, 99), 7);
        due("99, 48", x.marks(99, 48), 4);
        due("99, 49", x.marks(99, 49), 6);
        due("1, 0", x.marks(1, 0), 0);
        due("51, 1", x.marks(51, 1), 2);
        due("49, 1", x.marks(49, 1), 2);
        says(44, "NONE: others.", "s0,5;s50,5;s99,5");
        int[][] others = {{-1, 0}, {100, 0}, {0, -1}, {0, 100}, {LEAST, 0}, {MOST, 0}, {0, LEAST}, {0, MOST}, {-1, -1}, {100, 100}, {-1, 5}, {100, 5}};
        for (int[] o : others) due("marks(" + o[0] + ", " + o[1] + ")", x.marks(o[0], o[1]), -1);
    }

    private void grass() {
        says(45, "THE TEXT tells marks, one behind another: 1 to 6 numbers of 1 or 2 digits with , between (X of each)", EIGHT);
        due("1", grass("0", 0), 1);
        dueRow("1", 0);
        due("6", grass("0,10,20,30,40,50", 0), 1);
        dueRow("6", 0, 1, 2, 3, 4, 5);
        due("1 digit", grass("9", 1), 1);
        dueRow("1 digit", 1);
        due("2 digits", grass("09,70", 1), 1);
        dueRow("2 digits", 1, 7);
        due("99", grass("99", 29), 1);
        due("THE TEXT is emptied", x.count(13), 0);
        says(45, ": rows of as many STANDINGS, none like the one ahead of it, whose FOOT is no more than e (0 .. 99) off each: how many", EIGHT);
        due("none like the one ahead", grass("10,10", 0), 0);
        due("two marks, two STANDINGS", grass("10,10", 10), 6);
        due("9 off is none", grass("15,15", 4), 0);
        due("5 off", grass("15,15", 5), 2);
        due("one between is like the first", grass("15,15,15", 5), 2);
        due("all of 6", grass("0,0,0,0,0,0", 99), 8 * 7 * 7 * 7 * 7 * 7);
        due("all of 6 within 70", grass("0,0,0,0,0,0", 70), 8 * 7 * 7 * 7 * 7 * 7);
        due("all but one within 69", grass("0,0,0,0,0,0", 69), 7 * 6 * 6 * 6 * 6 * 6);
        due("the last mark can't be", grass("0,10,99", 0), 0);
        fresh("s5,0");
        due("one STANDING, one mark", grass("5", 0), 1);
        due("one STANDING, two marks", grass("5,5", 99), 0);
        fresh("s5,0;s5,9");
        due("two STANDINGS with one FOOT", grass("5,5,5", 0), 2);
        says(45, "; the ROW: the least (none without).", EIGHT);
        grass("0,0,0,0,0,0", 99);
        dueRow("the least", 0, 1, 0, 1, 0, 1);
        grass("15,15,35", 15);
        dueRow("the least", 0, 1, 2);
        grass("10,0,10", 10);
        dueRow("the first is not such as has no row", 0, 1, 0);
        due("none", grass("99", 0), 0);
        dueRow("none without");
        fresh("s5,0;s50,0");
        due("the first can't be 0, as the second must be", grass("27,5", 23), 1);
        dueRow("the first can't be 0, as the second must be", 1, 0);
    }

    private void grassThatCannotStand() {
        says(45, "-1 - p: the sign at p can't stand there", EIGHT);
        String[] bad = {"x", ",", "1x", "12x", "123", "1,x", "1,,2", "1,2x", "1,22,333", "-1", "1;2", " 1", "1 ", "1,2,3,4,5,6x", "1,2,3,4,5,66,x"};
        int[] at = {0, 0, 1, 2, 2, 2, 2, 3, 7, 0, 1, 0, 1, 11, 13};
        x.work(255);
        String row = theRow();
        for (int i = 0; i < bad.length; i++) due(bad[i], grass(bad[i], 5), -1 - at[i]);
        due("the row stays", theRow(), row);
        due("THE TEXT is emptied", x.count(13), 0);
        for (String behind : new String[] {"", "1,", "1,2,3,4,5,"}) dueSigns(t -> grass(t, 5), behind, DIGITS);
        for (String behind : new String[] {"1", "1,2", "1,2,3,4,5,6"}) dueSigns(t -> grass(t, 5), behind, DIGITS + ",");
        for (String behind : new String[] {"12", "1,22", "1,2,3,4,5,66"}) dueSigns(t -> grass(t, 5), behind, ",");
        dueSigns(t -> grass(t, 5), "1,2,3,4,5,6,", "");
        says(45, "(its end, if it ends too early", EIGHT);
        String[] early = {"", "1,", "12,", "1,2,", "1,2,3,4,5,"};
        for (String text : early) due(text, grass(text, 5), -1 - text.length());
        due("it does not", grass("1,2,3,4,5,6", 0), 0);
        says(45, "; a seventh number's first sign)", EIGHT);
        due("a seventh", grass("1,2,3,4,5,6,7", 5), -1 - 12);
        due("a seventh, by 2 digits each", grass("11,22,33,44,55,66,77", 5), -1 - 18);
        due("an eighth", grass("1,2,3,4,5,6,7,8", 5), -1 - 12);
        due("six", grass("11,22,33,44,55,66", 5), 2);
        due("80 signs", grass("1,".repeat(40), 5), -1 - 12);
        says(45, "; -100: another e (asked first).", EIGHT);
        for (int e : new int[] {-1, 100, LEAST, MOST}) {
            due("grass(" + e + ")", grass("1", e), -100);
            due("grass(" + e + ") of a text that can't stand", grass("x", e), -100);
            due("grass(" + e + ") of none", grass("", e), -100);
        }
        due("0", grass("70", 0), 1);
        due("99", grass("70", 99), 8);
    }

    private void fits() {
        says(46, "Sets of STANDINGS (256 at most) by which just FRUITS told as bits can all have been had, by hand, as the foot is now"
            + " (each is REACHED from one of the set, and each of the set REACHES one of them at least): how many", EIGHT, "f35,0;f18,0;f2,0;f90,0@9");
        due("one that two of eight REACH", x.fits(2), 3);
        due("one of one alone", x.fits(4), 3);
        due("all three, of which two share one", x.fits(7), 3 * (4 + 1));
        due("none of them", x.fits(0), 1);
        due("one that none REACHES", x.fits(8), 0);
        due("with others", x.fits(15), 0);
        x.foot(1);
        x.set(1, 30);
        x.set(0, 10);
        due("by all eight, leaning: all but the empty set", x.fits(1), 255);
        x.sleep();
        x.move(0);
        x.shake();
        due("HANGING or not", x.fits(1), 255);
        due("by six of the eight", x.fits(2), 63);
        says(46, "; the ROW: the smallest (bits; of as small ones the least; NONE), the greatest (likewise; the least of as great ones; NONE).",
            "f10,5;f20,5;f30,5;f90,5;s10,5;s20,5;s30,5;s20,5;s25,5");
        x.set(0, 5);
        due("one", x.fits(2), 7);
        dueRow("the least, the greatest", 2, 2 | 8 | 16);
        due("two", x.fits(6), 8 + 3);
        dueRow("one is the smallest", 16, 2 | 4 | 8 | 16);
        due("none of them", x.fits(0), 1);
        dueRow("no STANDINGS", 0, 0);
        due("one that none REACHES", x.fits(8), 0);
        dueRow("NONE", -1, -1);
        says(46, "NONE: bits of none such.", TREE);
        x.fits(1);
        String row = theRow();
        for (int those : new int[] {32, 65536, -1, LEAST, MOST}) due("fits(" + those + ")", x.fits(those), -1);
        due("the row stays", theRow(), row);
        due("all there are", x.fits(31), 0);
        fresh("f1,1;f1,1;f1,1;f1,1;f1,1;f1,1;f1,1;f1,1;s1,1", "f1,1;f1,1;f1,1;f1,1;f1,1;f1,1;f1,1;f1,1");
        due("all 16", x.fits(65535), 1);
        due("a 17th", x.fits(65536), -1);
        fresh();
        due("none of none", x.fits(0), 1);
        due("one of none", x.fits(1), -1);
    }

    private void leaned() {
        says(47, "How far one must have leaned at least (0 .. 30, more than ARM), to have a FRUIT from a STANDING by hand: how far.", "f18,5@9;f19,5;f48,5;f13,17;f10,0;s10,5;s48,5");
        due("8 by 8", x.leaned(0, 0), 0);
        due("9 by 8", x.leaned(1, 0), 1);
        due("38 by 8", x.leaned(2, 0), 30);
        due("3 and 12 by 8", x.leaned(3, 0), 5);
        due("0 by 8", x.leaned(4, 0), 0);
        x.foot(1);
        x.set(1, 30);
        due("as if LEAN were not", x.leaned(1, 0), 1);
        x.set(0, 0);
        due("8 by 0", x.leaned(0, 0), 8);
        due("0 by 0", x.leaned(4, 0), 0);
        x.set(0, 30);
        due("38 by 30", x.leaned(2, 0), 8);
        says(47, "-2: not by 30", "f48,5;f49,5;s10,5");
        due("30", x.leaned(0, 0), 30);
        due("31", x.leaned(1, 0), -2);
        x.set(0, 9);
        due("30", x.leaned(1, 0), 30);
        says(47, "NONE: none such.", TREE);
        int[][] none = {{5, 0}, {16, 0}, {-1, 0}, {LEAST, 0}, {MOST, 0}, {0, 3}, {0, 8}, {0, -1}, {0, LEAST}, {0, MOST}};
        for (int[] n : none) due("leaned(" + n[0] + ", " + n[1] + ")", x.leaned(n[0], n[1]), -1);
        due("the last", x.leaned(4, 2), 22);
    }

    private void autumn() {
        says(48, "n DAYS (1 .. 30): in the k-th DAY is k more than now (9 at most)", "f1,1;f1,1@1;f1,1@2;f1,1@8;f1,1@9");
        due("1", x.autumn(1, 1, 10), 2);
        due("2", x.autumn(1, 2, 10), 3);
        due("7", x.autumn(1, 7, 10), 3);
        due("8", x.autumn(1, 8, 10), 4);
        due("9", x.autumn(1, 9, 10), 5);
        due("30", x.autumn(1, 30, 10), 5);
        dueRow("30", 31, 5, 1);
        sleep(7);
        due("in DAY 7: 1", x.autumn(1, 1, 10), 4);
        due("in DAY 7: 2", x.autumn(1, 2, 10), 5);
        sleep(2);
        due("in DAY 9: 1", x.autumn(1, 1, 10), 5);
        due("nothing changed", x.count(3) * 100 + x.count(5), 931);
        says(48, "of those that HANG and are RIPE then, by numbers, each falls if a DRAW of 10 is below p (0 .. 10): how many fell", "f1,1;f1,1;f1,1@9;f1,1;s1,1");
        due("p 0", x.autumn(5, 30, 0), 0);
        due("p 10", x.autumn(5, 1, 10), 3);
        x.move(0);
        x.pick(1, 0);
        due("what HANGS", x.autumn(5, 1, 10), 2);
        dueRow("what HANGS", 1 | 8, 2, 1);
        for (int p = 0; p <= 10; p++) {
            int bits = 0;
            int r = 5;
            for (int f = 0; f < 4; f += 3) {
                r = r * 1103515245 + 12345;
                if ((int) (((r & 0xFFFFFFFFL) / 65536) % 10) < p) bits |= 1 << f;
            }
            due("p " + p, x.autumn(5, 1, p), Integer.bitCount(bits));
            due("p " + p + ": which", row(0), bits);
        }
        says(48, "; the ROW: which (bits), WORTH that fell, the DAY (1 ..) in which the most did (the first; NONE).", "f10,9*9;f10,5*5@2;f11,3*8@2;f30,1*9@4;f31,1*9@4;s10,9");
        x.autumn(3, 30, 10);
        dueRow("two in the second, two in the fourth", 31, 40, 2);
        x.autumn(3, 30, 0);
        dueRow("none", 0, 0, -1);
        x.move(0);
        x.pick(0, 0);
        x.autumn(3, 3, 10);
        dueRow("two are BRUISED", 6, 2 + 4, 2);
        x.autumn(3, 1, 10);
        dueRow("none is RIPE", 0, 0, -1);
        sleep(9);
        x.autumn(3, 30, 10);
        dueRow("DAY 1 is the next", 30, 2 + 4 + 18, 1);
    }

    /** The draws once more, in longs that do not wrap around by themselves. */
    private static int[] fallen(int seed, int n, int p, int[] ripe, int now) {
        long r = seed & 0xFFFFFFFFL;
        int bits = 0;
        int most = 0;
        int when = -1;
        for (int k = 1; k <= n; k++) {
            int many = 0;
            for (int f = 0; f < ripe.length; f++) {
                if ((bits >> f & 1) == 0 && ripe[f] <= Math.min(9, now + k)) {
                    r = (r * 1103515245L + 12345) & 0xFFFFFFFFL;
                    if (r / 65536 % 10 < p) {
                        bits |= 1 << f;
                        many++;
                    }
                }
            }
            if (many > most) {
                most = many;
                when = k;
            }
        }
        return new int[] {bits, Integer.bitCount(bits), when};
    }

    private void autumnOfDraws() {
        says(48, "A DRAW of n: R = R times 1103515245 + 12345 (as ints; R is seed at first), (R without sign, by 65536) % n.", "f1,1;f1,1;f1,1@2;f1,1@5;f1,1@9;f1,1@9");
        int[] ripe = {0, 0, 2, 5, 9, 9};
        for (int seed : new int[] {0, 1, -1, 12345, -12345, LEAST, MOST, 1 << 30, 987654321}) {
            for (int p : new int[] {1, 3, 5, 9}) for (int n : new int[] {1, 2, 9, 30}) {
                int[] want = fallen(seed, n, p, ripe, 0);
                due("autumn(" + seed + ", " + n + ", " + p + ")", x.autumn(seed, n, p), want[1]);
                dueRow("autumn(" + seed + ", " + n + ", " + p + ")", want);
            }
        }
    }

    private void autumnRefused() {
        says(48, "NONE: others.", "f1,1;s1,1");
        x.autumn(1, 1, 10);
        int[][] others = {{0, 5}, {31, 5}, {-1, 5}, {LEAST, 5}, {MOST, 5}, {1, -1}, {1, 11}, {1, LEAST}, {1, MOST}, {0, 11}};
        for (int[] o : others) due("autumn(1, " + o[0] + ", " + o[1] + ")", x.autumn(1, o[0], o[1]), -1);
        dueRow("the row stays", 1, 1, 1);
        due("any seed", x.autumn(LEAST, 30, 10), 1);
        due("without FRUITS", new WhereTheLadder().autumn(1, 30, 10), 0);
    }

    private void keep() {
        says(49, "Where all FRUITS are, BRUISED, where the ladder is, the foot, DAY, CLOCK are kept under a number 0 .. 1: true.", TREE);
        String first = state();
        due("0", x.keep(0), true);
        x.move(0);
        x.pick(1, 0);
        x.down();
        x.pick(0, 0);
        x.foot(1);
        String[] second = state().split(" ");
        due("1", x.keep(1), true);
        x.shake();
        sleep(3);
        x.foot(0);
        due("0 again", x.again(0), true);
        due("as it was", state(), first);
        due("1 again", x.again(1), true);
        second[11] = "0";
        due("as it was, but none can be undone", state(), String.join(" ", second));
        x.sleep();
        due("kept once more", x.keep(1), true);
        x.again(0);
        x.again(1);
        due("the later one", x.count(3), 1);
        says(49, "Refused: others.", TREE);
        for (int i : new int[] {2, -1, LEAST, MOST}) due("keep(" + i + ")", x.keep(i), false);
        due("nothing was kept", x.again(0) || x.again(1), false);
    }

    private void again() {
        says(50, "They are as they were kept under a number.", TREE);
        x.move(0);
        x.pick(1, 0);
        x.keep(0);
        x.set(0, 9);
        rule("5");
        x.sheet(2, 5, 1, 1);
        x.sleep();
        due("again", x.again(0), true);
        due("THE APRON", x.count(6), 2);
        due("BRUISED", x.count(9), 1);
        due("where the ladder is", x.count(2), 0);
        due("CLOCK", x.count(4), 12);
        due("DAY", x.count(3), 0);
        due("what was set stays", x.set(0, 8), 9);
        due("THE RULE stays", x.seconds(0, 0, 0), 5);
        due("WORTHS stay", fruit(4, 2), 5);
        x.shake();
        due("once more", x.again(0), true);
        due("what HANGS", x.count(5), 31 - 2);
        says(50, "Refused: nothing kept", TREE);
        for (int i : new int[] {0, 1, 2, -1, LEAST, MOST}) due("again(" + i + ")", x.again(i), false);
        x.keep(1);
        x.move(0);
        due("under 0", x.again(0), false);
        due("under 2", x.again(2), false);
        due("nothing changed", x.count(2), 0);
        due("under 1", x.again(1), true);
        says(50, ", FRUITS or STANDINGS came since.", TREE);
        x.keep(0);
        x.keep(1);
        x.foot(1);
        due("an empty orchard()", orchard(""), 0);
        due("a refused one", orchard("f1,1;g"), -1 - 5);
        due("none came", x.again(0), true);
        due("a FRUIT", orchard("f1,1"), 1);
        due("came", x.again(0), false);
        due("under 1, too", x.again(1), false);
        x.keep(1);
        due("kept since", x.again(1), true);
        due("under 0 not", x.again(0), false);
        due("a STANDING", orchard("s1,1"), 1);
        x.move(3);
        due("came", x.again(1), false);
        due("nothing changed", x.count(2), 3);
    }

    private void count() {
        says(51, "What 0: FRUITS, 1: STANDINGS, 2: where the ladder is (NONE), 3: DAY, 4: CLOCK, 5: what HANGS (bits), 6: in THE APRON, 7: in the BASKET, 8: on the GROUND, 9: BRUISED", TREE);
        int[] first = {5, 3, -1, 0, 0, 31, 0, 0, 0, 0};
        for (int what = 0; what < 10; what++) due("at first: count(" + what + ")", x.count(what), first[what]);
        x.sleep();
        x.foot(1);
        x.move(2);
        x.pick(1, 0);
        x.down();
        x.pick(2, 0);
        x.move(1);
        x.pick(3, 0);
        x.move(0);
        x.shake();
        x.move(1);
        orchard("f30,9;f30,4");
        x.pick(5, 0);
        int[] then = {7, 3, 1, 1, 0, 16 | 64, 32, 2 | 4 | 8, 1, 1 | 64};
        then[4] = 9 + (2 + 6 / 4) + 5 + (2 + 4 / 4 + 8 / 2) + (9 + 12 + 5) + 2 + (9 + 18 + 4) + 5 + (9 + 18) + 2;
        for (int what = 0; what < 10; what++) due("then: count(" + what + ")", x.count(what), then[what]);
        says(51, "10: WORTH in the BASKET", "f10,9*9;f10,5*9;f10,4*4;f10,3*1;s10,9");
        due("none", x.count(10), 0);
        x.move(0);
        x.pick(0, 0);
        due("not yet", x.count(10), 0);
        x.down();
        due("9", x.count(10), 9);
        x.pick(1, 0);
        x.pick(3, 0);
        x.sleep();
        due("half of 9, of 1", x.count(10), 9 + 4 + 0);
        x.move(0);
        x.shake();
        due("what is on the GROUND does not count", x.count(10), 13);
        x.sheet(2, 4, 5, 0);
        due("as a sheet tells", x.count(10), 5 + 2 + 2);
        says(51, "11: what can be undone", TREE);
        for (int i = 0; i <= 14; i++) {
            due("after " + i, x.count(11), Math.min(12, i));
            x.foot(1);
        }
        x.undo();
        due("11", x.count(11), 11);
        says(51, "12: numbers of the ROW", TREE);
        due("none", x.count(12), 0);
        x.never();
        due("one", x.count(12), 1);
        x.reached(0);
        due("two", x.count(12), 2);
        x.work(7);
        due("three", x.count(12), 3);
        says(51, "13: signs of THE TEXT.");
        due("none", x.count(13), 0);
        for (int i = 1; i <= 20; i++) {
            x.sign(0);
            due("signs", x.count(13), 4 * i);
        }
        x.end(1);
        due("one", x.count(13), 1);
        says(51, "-100 for another what.", TREE);
        for (int what : new int[] {-1, 14, LEAST, MOST}) due("count(" + what + ")", x.count(what), -100);
        due("13", x.count(13), 0);
        due("0", x.count(0), 5);
    }

    private void row() {
        says(52, "Number i of the ROW.", "f1,8;f1,7;f1,6;f1,5;f1,4;f1,3;f1,2;f1,1;s1,9", "f9,8;f9,7;f9,6;f9,5;f9,4;f9,3;f9,2;f9,1");
        x.move(0);
        x.gentle();
        int[] due = {7, 6, 5, 4, 3, 2, 1, 0, 15, 14, 13, 12, 11, 10, 9, 8};
        for (int i = 0; i < 16; i++) due("row(" + i + ")", row(i), due[i]);
        says(52, "NoSuchElementException: none such.", "f1,8;f1,7;f1,6;f1,5;f1,4;f1,3;f1,2;f1,1;s1,9", "f9,8;f9,7;f9,6;f9,5;f9,4;f9,3;f9,2;f9,1");
        due("none yet", row(0), MISSING);
        x.move(0);
        x.gentle();
        due("the last of 16", row(15), 8);
        for (int i : new int[] {16, -1, LEAST, MOST}) due("row(" + i + ")", row(i), MISSING);
        x.never();
        due("the last of one", row(0), 0);
        due("none such", row(1), MISSING);
        x.shake();
        x.fewest();
        due("of none", row(0), MISSING);
    }
}
