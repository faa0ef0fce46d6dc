/** Promises 18 to 36, sentence by sentence: for each bound the last that is allowed, and the first that is not. */
public final class TheStandingsTest extends Sentences {
    private static final String TREE = "f10,5*3;f10,9*5;f12,20*2@1;f30,8*4;f40,30*9;s10,6;s28,10;s16,12";
    private static final String EIGHT = "s0,0;s10,0;s20,0;s30,0;s40,0;s50,0;s60,0;s70,0";
    private static final int[] NO_STANDINGS = {3, 8, -1, LEAST, MOST};
    private static final int[] NO_SETS = {8, 9, 256, -1, LEAST, MOST};

    public static void main(String[] args) throws Exception {
        new TheStandingsTest().judge(18, 36);
    }

    @Override
    void tests() {
        reached();
        from();
        never();
        seconds();
        both();
        nearest();
        fewest();
        needed();
        birds();
        next();
        route();
        work();
        soonest();
        pays();
        trips();
        helps();
        hooked();
        broken();
        sweep();
    }

    private void reached() {
        says(18, "FRUITS (bits; HANGING or not) that are REACHED from a STANDING by hand, nobody at the foot", "f18,5;f19,5;f10,13;f10,14;f2,5;f1,5;s10,5");
        due("8 is, 9 is not", x.reached(0), 1 | 4 | 16);
        x.foot(1);
        due("nobody at the foot", x.reached(0), 1 | 4 | 16);
        x.move(0);
        x.pick(0, 0);
        due("in THE APRON", x.reached(0), 1 | 4 | 16);
        x.shake();
        due("on the GROUND", x.reached(0), 1 | 4 | 16);
        says(18, "the ROW: with one at the foot; with that and the hook.", "f21,5;f22,5;f26,5;f27,5;s10,5");
        due("none", x.reached(0), 0);
        dueRow("11 is, 12 is not; 16 is, 17 is not", 1, 1 | 2 | 4);
        says(18, "NONE: none such.", TREE);
        x.reached(2);
        String row = theRow();
        for (int s : NO_STANDINGS) due("reached(" + s + ")", x.reached(s), -1);
        due("the row stays", theRow(), row);
    }

    private void from() {
        says(19, "STANDINGS (bits) from which a FRUIT is REACHED, as the foot is now, by hand (0), with the hook (1).",
            "f20,5;s12,5;s11,5;s31,5;s32,5;s7,5;s33,5;s4,5;s3,5");
        due("8 by hand", x.from(0, 0), 1);
        due("13 with the hook", x.from(0, 1), 1 | 2 | 4 | 8 | 16 | 32);
        x.foot(1);
        due("11 by leaning", x.from(0, 0), 1 | 2 | 4);
        due("16 with both", x.from(0, 1), 1 | 2 | 4 | 8 | 16 | 32 | 64);
        says(19, "NONE: others.", TREE);
        int[][] others = {{5, 0}, {16, 0}, {-1, 0}, {LEAST, 0}, {MOST, 0}, {0, 2}, {0, -1}, {0, LEAST}, {0, MOST}};
        for (int[] o : others) due("from(" + o[0] + ", " + o[1] + ")", x.from(o[0], o[1]), -1);
        due("the last", x.from(4, 1), 0);
        fresh("f1,1");
        due("no STANDINGS", x.from(0, 0), 0);
    }

    private void never() {
        says(20, "FRUITS that HANG and can't be REACHED at all (one at the foot, the hook): bits", "f26,5;f27,5;f10,21;f10,22;f80,80@9;s10,5;s11,5");
        due("16 from one of them is REACHED", x.never(), 8 | 16);
        x.set(2, 4);
        due("15 from the second is REACHED, 16 is not", x.never(), 2 | 4 | 8 | 16);
        x.foot(1);
        due("as if one were at the foot", x.never(), 2 | 4 | 8 | 16);
        fresh("f10,20;f10,5@9;f10,10@9;s10,12");
        x.move(0);
        x.pick(0, 0);
        for (int what = 0; what < 3; what++) x.set(what, 0);
        due("it does not HANG", x.never(), 0);
        fresh("f1,1;f2,2");
        due("no STANDINGS", x.never(), 3);
        says(20, "; the ROW: the WORTH of all of them.", "f10,50*9;f9,45*9;f10,42*4;f10,0*5;s10,42");
        x.move(0);
        x.pick(0, 0);
        for (int what = 0; what < 3; what++) x.set(what, 0);
        due("one", x.never(), 2);
        dueRow("half of 9", 4);
        x.set(0, 8);
        due("none", x.never(), 0);
        dueRow("none", 0);
    }

    private void seconds() {
        says(21, "SECONDS of a FRUIT from a STANDING, by hand (0), with the hook (1), THE APRON empty.", TREE);
        rule("y+k*9+o*50");
        due("by hand", x.seconds(0, 0, 0), 5);
        due("with the hook", x.seconds(0, 0, 1), 55);
        x.move(0);
        x.pick(1, 0);
        due("THE APRON is not thought of", x.seconds(0, 0, 0), 5);
        due("nor where the FRUIT is", x.seconds(1, 0, 0), 9);
        says(21, "-2: not REACHED, as the foot is now", "f18,5@9;f19,5;f21,5;f22,5;f23,5;f24,5;f26,5;f27,5;s10,5");
        int[] hand = {4, -2, -2, -2, -2, -2, -2, -2};
        int[] hook = {4, 4, 4, 5, 5, -2, -2, -2};
        for (int f = 0; f < 8; f++) due("by hand: " + f, x.seconds(f, 0, 0), hand[f]);
        for (int f = 0; f < 8; f++) due("with the hook: " + f, x.seconds(f, 0, 1), hook[f]);
        x.foot(1);
        int[] leaning = {4, 4, 4, -2, -2, -2, -2, -2};
        int[] both = {4, 4, 4, 5, 5, 5, 6, -2};
        for (int f = 0; f < 8; f++) due("leaning: " + f, x.seconds(f, 0, 0), leaning[f]);
        for (int f = 0; f < 8; f++) due("with both: " + f, x.seconds(f, 0, 1), both[f]);
        says(21, "NONE: others.", TREE);
        int[][] others = {{5, 0, 0}, {-1, 0, 0}, {MOST, 0, 0}, {LEAST, 0, 0}, {0, 3, 0}, {0, -1, 0}, {0, MOST, 0}, {0, LEAST, 0}, {0, 0, 2}, {0, 0, -1},
            {0, 0, MOST}, {0, 0, LEAST}, {4, 0, 2}};
        for (int[] o : others) due("seconds(" + o[0] + ", " + o[1] + ", " + o[2] + ")", x.seconds(o[0], o[1], o[2]), -1);
        due("the last of each", x.seconds(4, 2, 1), -2);
    }

    private void both() {
        says(22, "WANTED (bits) that are REACHED by hand from both of two unlike STANDINGS", "f18,5;f19,5;f17,5;f18,6@1;f22,5;s10,5;s26,5;s25,5");
        due("8 from both", x.both(0, 1), 1);
        due("8 and 7 from both", x.both(0, 2), 1 | 4);
        x.foot(1);
        due("leaning", x.both(0, 1), 1 | 2 | 4);
        x.sleep();
        due("RIPE", x.both(0, 1), 1 | 2 | 4 | 8);
        x.move(0);
        x.pick(0, 0);
        due("HANGS", x.both(0, 1), 2 | 4 | 8);
        says(22, "; the ROW: from the first alone of the two, from the second alone.", "f18,5;f19,5;f17,5;f50,5;s10,5;s26,5;s50,5");
        x.both(0, 1);
        dueRow("0 and 1", 4, 2);
        x.both(1, 0);
        dueRow("1 and 0", 2, 4);
        x.both(2, 0);
        dueRow("2 and 0", 8, 1 | 4);
        says(22, "NONE: others.", TREE);
        int[][] others = {{0, 0}, {2, 2}, {3, 0}, {0, 3}, {3, 3}, {-1, 0}, {0, -1}, {-1, -1}, {MOST, 0}, {0, LEAST}};
        for (int[] o : others) due("both(" + o[0] + ", " + o[1] + ")", x.both(o[0], o[1]), -1);
        due("the last", x.both(1, 2), 0);
    }

    private void nearest() {
        says(23, "The STANDING from which the least leaned() reaches a FRUIT; of equal ones the first: it; the ROW: how far.",
            "f50,5;f50,20@9;s90,5;s11,5;s61,5;s39,5;s50,11");
        due("the least", x.nearest(0), 4);
        dueRow("how far", 0);
        due("one that is not RIPE", x.nearest(1), 4);
        dueRow("how far", 1);
        fresh("f50,5;s90,5;s11,5;s61,5;s39,5");
        due("of equal ones the first", x.nearest(0), 2);
        dueRow("how far", 3);
        fresh("f50,5;s55,5;s50,5");
        due("both by 0: the first", x.nearest(0), 0);
        dueRow("how far", 0);
        fresh("f50,5;s12,5");
        due("30", x.nearest(0), 0);
        dueRow("how far", 30);
        says(23, "-2: from none", "f50,5;f51,5;f12,5;s12,5;s11,5");
        due("by 30", x.nearest(0), 0);
        due("by 31", x.nearest(1), -2);
        dueRow("the row stays", 30);
        fresh("f1,1");
        due("no STANDINGS", x.nearest(0), -2);
        says(23, "NONE: none such.", TREE);
        for (int f : new int[] {5, 16, -1, LEAST, MOST}) due("nearest(" + f + ")", x.nearest(f), -1);
        due("the last", x.nearest(4), 1);
    }

    private void fewest() {
        says(24, "The fewest STANDINGS from which all WANTED are REACHED by hand: how many", EIGHT, "f0,0;f10,0;f20,0;f30,0;f40,0;f50,0;f60,0;f70,0");
        due("each by its own", x.fewest(), 8);
        dueRow("all", 0, 1, 2, 3, 4, 5, 6, 7);
        x.set(0, 10);
        due("three by one", x.fewest(), 3);
        x.set(0, 30);
        due("seven by one", x.fewest(), 2);
        x.set(1, 10);
        x.foot(1);
        due("all by one", x.fewest(), 1);
        dueRow("the first of two", 3);
        x.foot(0);
        x.set(0, 0);
        x.set(1, 0);
        x.move(0);
        x.pick(0, 0);
        due("what HANGS", x.fewest(), 7);
        fresh("f1,1;f2,2");
        due("no STANDINGS", x.fewest(), 0);
        dueRow("none");
        fresh("f1,1@1;s1,1;f90,1");
        due("none is WANTED", x.fewest(), 0);
        dueRow("none");
        says(24, "; the ROW: they, rising: of as few the least row.", "f10,5;f20,5;f30,5;s10,5;s15,5;s30,5;s25,5");
        x.set(0, 5);
        due("two", x.fewest(), 2);
        dueRow("not 1 and 2", 0, 3);
        fresh("f10,5;f20,5;f30,5;s30,5;s15,5;s10,5;s25,5");
        x.set(0, 5);
        due("two", x.fewest(), 2);
        dueRow("0 and 1", 0, 1);
    }

    private void needed() {
        says(25, "STANDINGS (bits) without which some WANTED could not be had", "f10,5;f20,5;f30,5;f50,5;f60,5@1;s10,5;s20,5;s30,5;s50,5;s60,5");
        due("each", x.needed(), 15);
        x.set(0, 10);
        due("the one of 50", x.needed(), 0);
        x.set(0, 9);
        due("each", x.needed(), 15);
        x.move(0);
        x.pick(0, 0);
        due("what HANGS", x.needed(), 14);
        x.sleep();
        due("what is RIPE", x.needed(), 30);
        fresh();
        due("none", x.needed(), 0);
        dueRow("none", 0);
        says(25, "; the ROW: WANTED (bits) that are REACHED from just one.", "f10,5;f11,5;f18,5;f19,5;f50,5;f90,5;s10,5;s26,5;s50,5");
        due("0 and 2, and 1 by 19", x.needed(), 7);
        dueRow("not 18, not what none reaches", 1 | 2 | 8 | 16);
        fresh("f18,5;s10,5;s26,5");
        due("none", x.needed(), 0);
        dueRow("none", 0);
    }

    private void birds() {
        String tree = EIGHT + ";f0,0*1;f10,0*2;f20,0*3";
        says(26, "The least WORTH of WANTED that is left, if the ladder is set to n STANDINGS (0 .. 8) at most: how much", tree, "f30,0*4;f40,0*5;f50,0*6;f60,0*7;f70,0*8");
        int[] due = {36, 28, 21, 15, 10, 6, 3, 1, 0};
        for (int n = 0; n <= 8; n++) due("by " + n, x.birds(n), due[n]);
        x.move(7);
        x.pick(7, 0);
        due("what HANGS", x.birds(0), 28);
        says(26, "; the ROW: STANDINGS (bits: of as good ones the fewest, then the least), FRUITS (bits) that are left.", tree, "f30,0*4;f40,0*5;f50,0*6;f60,0*7;f70,0*8");
        x.birds(0);
        dueRow("0", 0, 255);
        x.birds(1);
        dueRow("1", 128, 127);
        x.birds(7);
        dueRow("7", 254, 1);
        x.birds(8);
        dueRow("8", 255, 0);
        x.sheet(2, 0, 0, 0);
        due("no WORTH", x.birds(8), 0);
        dueRow("the fewest", 0, 255);
        x.sheet(2, 8, 2, 0);
        due("all alike", x.birds(3), 10);
        dueRow("then the least", 7, 255 - 7);
        fresh("f10,5*9;f20,5*8;s10,5;s20,5");
        due("one", x.birds(1), 8);
        dueRow("the first", 1, 2);
        fresh("f10,5;f20,5;f30,5;s10,5;s15,5;s30,5;s25,5");
        x.set(0, 5);
        due("two", x.birds(2), 0);
        dueRow("the least bits, not the least row", 6, 0);
        says(26, "NONE: another n.", TREE);
        for (int n : new int[] {9, -1, LEAST, MOST}) due("birds(" + n + ")", x.birds(n), -1);
        due("8 of 3", x.birds(8), 0);
        fresh();
        due("8 of none", x.birds(8), 0);
        dueRow("none", 0, 0);
    }

    private void next() {
        says(27, "The STANDING that, with those told as bits, leaves the least WORTH of WANTED; of equal ones the first: it", "f10,5*3;f20,5*4;f30,5*4;s10,5;s20,5;s30,5");
        due("none told", x.next(0), 1);
        due("the first told", x.next(1), 1);
        due("the second told", x.next(2), 2);
        due("the third told", x.next(4), 1);
        due("two told", x.next(6), 0);
        x.sheet(2, 0, 0, 0);
        due("none has WORTH", x.next(0), 0);
        due("none has WORTH, the first told", x.next(1), 1);
        says(27, "; the ROW: how much is left, how much without it.", "f10,5*3;f20,5*4;f30,5*4;s10,5;s20,5;s30,5");
        x.next(0);
        dueRow("none told", 7, 11);
        x.next(5);
        dueRow("two told", 0, 4);
        due("the first is the one", x.next(6), 0);
        dueRow("the first is the one", 0, 3);
        says(27, "-2: there is none besides", "f10,5*3;s10,5;s20,5;s30,5");
        due("one besides", x.next(3), 2);
        dueRow("nothing is left", 0, 0);
        due("none besides", x.next(7), -2);
        dueRow("the row stays", 0, 0);
        fresh();
        due("no STANDINGS", x.next(0), -2);
        says(27, "NONE: bits of none such.", TREE);
        for (int those : NO_SETS) due("next(" + those + ")", x.next(those), -1);
        fresh(EIGHT);
        due("all but the last of eight", x.next(127), 7);
        due("all eight", x.next(255), -2);
        due("a ninth", x.next(256), -1);
    }

    private void route() {
        says(28, "The shortest way of moving the ladder from where it is to all STANDINGS told as bits (where it is not): SECONDS", "s50,0;s10,0;s90,0;s60,0;s50,9");
        due("none", x.route(0), 0);
        dueRow("none");
        due("from none to one", x.route(4), 9);
        due("from none to all", x.route(31), 45 + 80);
        x.move(3);
        due("from 60 to all", x.route(31), 36 + 30 + 80);
        dueRow("the nearer end first", 2, 0, 4, 1);
        due("to where it is", x.route(8), 0);
        dueRow("none");
        due("there, and to another", x.route(12), 9 + 30);
        dueRow("the other", 2);
        due("to one that stands beside one", x.route(17), 18 + 10);
        x.set(3, 9);
        due("MOVING 9", x.route(31), 36 + 9 * 110);
        x.set(3, 0);
        due("MOVING 0", x.route(31), 36);
        says(28, "; the ROW: they in turn: of as short ones the least row.", "s50,0;s10,0;s90,0;s50,9;s50,9");
        x.route(31);
        dueRow("from none, from either end", 1, 0, 3, 4, 2);
        x.move(0);
        due("both ends as far", x.route(30), 36 + 120);
        dueRow("the least", 1, 3, 4, 2);
        x.set(3, 0);
        x.route(30);
        dueRow("MOVING 0: rising", 1, 2, 3, 4);
        fresh("s90,0;s50,0;s10,0");
        x.move(2);
        x.route(7);
        dueRow("the first comes last", 1, 0);
        fresh("s99,0;s99,5;s99,9");
        x.set(3, 9);
        due("all at 99", x.route(7), 27);
        dueRow("all at 99", 0, 1, 2);
        x.move(1);
        due("all at 99, from there", x.route(7), 18);
        fresh("s0,0;s0,5;s0,9");
        x.set(3, 9);
        due("all at 0", x.route(7), 27);
        x.move(1);
        due("all at 0, from there", x.route(7), 18);
        fresh("s0,0;s99,0");
        x.set(3, 9);
        due("as far as can be", x.route(3), 18 + 891);
        fresh(EIGHT);
        due("all eight", x.route(255), 72 + 70);
        dueRow("all eight", 0, 1, 2, 3, 4, 5, 6, 7);
        x.move(3);
        due("the other seven", x.route(255), 63 + 30 + 70);
        dueRow("the nearer end, and what is on the way", 0, 1, 2, 4, 5, 6, 7);
        says(28, "NONE: bits of none such.", TREE);
        for (int those : NO_SETS) due("route(" + those + ")", x.route(those), -1);
        due("all there are", x.route(7), 27 + 18);
    }

    private void work() {
        says(29, "SECONDS of having all WANTED that are REACHED from STANDINGS told as bits", "f10,5;f20,5;f10,6@1;s10,5;s20,5");
        due("none", x.work(0), 0);
        due("one", x.work(1), 9 + 2 + 4);
        due("both", x.work(3), 28 + 4 + 8);
        x.sleep();
        due("RIPE", x.work(1), 9 + 4 + 4);
        x.move(0);
        x.pick(0, 0);
        due("HANGS", x.work(1), 0 + 2 + 4);
        says(29, ": each FRUIT from that of these from which it takes the fewest (of equal ones the first), by hand, THE APRON empty",
            "f10,5;s10,95;s10,5;s18,5");
        due("of equal ones the first", x.work(7), 27 + 8 + 2 + 13);
        due("of equal ones the first, of these", x.work(6), 18 + 8 + 2 + 4);
        rule("9-s+k*50+o*50");
        due("the fewest", x.work(7), 27 + 8 + 7 + 4);
        due("the fewest of these", x.work(3), 18 + 8 + 4);
        says(29, "; route() of all that are told", "f10,5;s10,5;s90,5;s50,5");
        x.work(3);
        dueRow("one that has no FRUIT, too", 18 + 80, 2, 4);
        x.move(2);
        x.work(7);
        dueRow("from where it is", 18 + 40 + 80, 2, 4);
        says(29, "; and going DOWN from each as often as its FRUITS fill THE APRON, begun ones too.", "f1,1;f1,1;f1,1;f1,1;f1,1;f1,1;f1,1;s1,1;s50,50;f50,50");
        x.work(3);
        dueRow("seven by six, one by six", 67, 16, 8 + 8);
        int[] trips = {7, 4, 3, 2, 2, 2, 1, 1};
        for (int room = 1; room <= 8; room++) {
            x.set(4, room);
            x.work(1);
            dueRow("room " + room, 9, 14, 4 * trips[room - 1]);
        }
        x.set(4, 16);
        x.work(1);
        dueRow("room 16", 9, 14, 4);
        x.move(0);
        x.pick(0, 0);
        x.set(4, 3);
        x.work(1);
        dueRow("what is in THE APRON is not thought of", 0, 12, 8);
        says(29, "How many; the ROW: SECONDS of moves, of picking, of going DOWN.", TREE);
        due("all", x.work(3), 36 + 7 + 8);
        dueRow("all", 36, 7, 8);
        due("none", x.work(0), 0);
        dueRow("none", 0, 0, 0);
        says(29, "NONE: bits of none such.", TREE);
        x.work(7);
        for (int those : NO_SETS) due("work(" + those + ")", x.work(those), -1);
        dueRow("the row stays", 45, 7, 8);
    }

    private void soonest() {
        says(30, "The set of STANDINGS by which all WANTED are had the soonest by work(): SECONDS", TREE);
        due("1 and 2", x.soonest(), 47);
        due("by work()", x.work(6), 47);
        x.set(3, 9);
        due("MOVING 9", x.soonest(), 18 + 9 * 12 + 8 + 9);
        x.move(0);
        due("where it is", x.soonest(), x.work(3));
        fresh(EIGHT, "f0,0;f10,0;f20,0;f30,0;f40,0;f50,0;f60,0;f70,0");
        due("all eight", x.soonest(), 72 + 70 + 16 + 24);
        dueRow("all eight", 255);
        fresh();
        due("none", x.soonest(), 0);
        dueRow("none", 0);
        says(30, "; the ROW: it (bits; of as soon ones the fewest, then the least).", "f10,5;s11,5;s9,5;s10,6");
        due("three that are as soon", x.soonest(), 15);
        dueRow("the least", 1);
        x.move(1);
        due("where it is", x.soonest(), 6);
        dueRow("it", 2);
        x.pick(0, 0);
        due("none is WANTED", x.soonest(), 0);
        dueRow("the fewest, though the ladder is there", 0);
        fresh("f10,5;f18,5;s10,5;s18,5;s14,5");
        x.set(0, 4);
        x.set(3, 0);
        rule("1+(s=2)*8");
        due("one by 9, 18, 4", x.work(4), 31);
        due("two by 18, 2, 8", x.work(3), 28);
        due("the soonest", x.soonest(), 28);
        dueRow("two", 3);
        rule("1+(s=2)*7+(s=0)");
        due("one by 9, 16, 4", x.work(4), 29);
        due("two by 18, 3, 8", x.work(3), 29);
        due("as soon", x.soonest(), 29);
        dueRow("the fewest, though its bits are more", 4);
    }

    private void pays() {
        says(31, "WORTH of all WANTED that are REACHED by hand from a STANDING", "f10,9*9;f18,5*3;f19,5*4;f10,5*5@1;s10,5");
        due("8 is, 9 is not", x.pays(0), 12);
        x.foot(1);
        due("leaning", x.pays(0), 16);
        x.sleep();
        due("RIPE", x.pays(0), 21);
        x.move(0);
        x.pick(0, 0);
        due("one that does not HANG, one BRUISED", x.pays(0), 3 + 4 + 2);
        says(31, "; the ROW: SECONDS of the move to it (0 if the ladder is there), of picking them (THE APRON empty), of going DOWN (as work() tells).",
            "f10,9;f10,8;f10,5;s10,5;s20,5;s10,25");
        rule("4+k+o*9");
        x.set(4, 2);
        x.pays(0);
        dueRow("from none", 9, 12, 8);
        x.move(1);
        x.pays(0);
        dueRow("from 20 to 10", 19, 12, 8);
        x.move(2);
        x.pays(0);
        dueRow("from 10 to 10", 9, 12, 8);
        x.pays(2);
        dueRow("there", 0, 12, 12);
        x.pick(0, 0);
        x.pays(2);
        dueRow("THE APRON is not thought of", 0, 8, 6);
        x.set(4, 1);
        x.pays(2);
        dueRow("room 1", 0, 8, 12);
        x.pays(1);
        dueRow("none is REACHED", 19, 0, 0);
        says(31, "NONE: none such.", TREE);
        x.pays(2);
        String row = theRow();
        for (int s : NO_STANDINGS) due("pays(" + s + ")", x.pays(s), -1);
        due("the row stays", theRow(), row);
    }

    private void trips() {
        says(32, "How often one must go DOWN from a STANDING to have all WANTED REACHED by hand from it", "f1,1;f1,1;f1,1;f1,1;f1,1;f1,1;f50,1;s1,1;s50,1;s90,1");
        int[] due = {5, 2, 1, 1, 1, 0, 0};
        for (int room = 1; room <= 7; room++) {
            x.set(4, room);
            due("six by room " + room, x.trips(0), due[room - 1]);
        }
        due("one", x.trips(1), 0);
        due("none", x.trips(2), 0);
        says(32, ", if THE APRON is as it is where the ladder is, else empty", "f1,1;f1,1;f1,1;f1,1;f1,1;f50,1;s1,1;s50,1");
        x.set(4, 4);
        x.move(0);
        x.pick(0, 0);
        due("one is in it, four more", x.trips(0), 1);
        x.pick(1, 0);
        due("two are in it, three more", x.trips(0), 1);
        due("from elsewhere", x.trips(1), 0);
        dueRow("empty", 1);
        x.set(4, 5);
        due("two are in it, three more, room 5", x.trips(0), 0);
        x.set(4, 2);
        due("full, three more", x.trips(0), 2);
        x.set(4, 1);
        due("more than full, three more", x.trips(0), 3);
        says(32, ", and is left with what is in it at the end: how often; the ROW: how many are in THE APRON then.", "f1,1;f1,1;f1,1;f1,1;f1,1;f1,1;s1,1;s50,1");
        int[] left = {1, 2, 3, 2, 1, 6, 6};
        for (int room = 1; room <= 7; room++) {
            x.set(4, room);
            x.trips(0);
            dueRow("six by room " + room, left[room - 1]);
        }
        x.trips(1);
        dueRow("none", 0);
        x.set(4, 6);
        x.move(0);
        for (int f = 0; f < 6; f++) x.pick(f, 0);
        due("none is WANTED", x.trips(0), 0);
        dueRow("full", 6);
        x.set(4, 1);
        due("none is WANTED", x.trips(0), 0);
        dueRow("more than full", 6);
        says(32, "NONE: none such.", TREE);
        x.trips(2);
        for (int s : NO_STANDINGS) due("trips(" + s + ")", x.trips(s), -1);
        dueRow("the row stays", 2);
    }

    private void helps() {
        says(33, "By how many STANDINGS fewest() would tell less (below 0: more), if one were at the foot, than if nobody were", "f10,5;f32,5;s10,5;s32,5;s21,5");
        due("11 by leaning", x.helps(), 1);
        x.foot(1);
        due("as the foot is does not matter", x.helps(), 1);
        x.set(1, 2);
        due("not by 2", x.helps(), 0);
        x.set(1, 0);
        due("not by 0", x.helps(), 0);
        fresh("f18,5;f41,5;f71,5;s10,5;s30,5;s60,5");
        due("two more", x.helps(), -2);
        fresh("f10,5;f20,5;f32,5;s21,5;s10,5;s32,5");
        due("the last is needed, if nobody is", x.helps(), 2);
        fresh();
        due("none", x.helps(), 0);
        dueRow("none", 0, 0);
        says(33, "; the ROW: how many are WANTED without, with one.", "f18,5;f19,5;f21,5;f22,5;f10,5@1;s10,5");
        x.helps();
        dueRow("8; 11", 1, 3);
        x.foot(1);
        x.move(0);
        x.pick(1, 0);
        x.helps();
        dueRow("what HANGS", 1, 2);
        x.sleep();
        x.helps();
        dueRow("what is RIPE", 2, 3);
    }

    private void hooked() {
        says(34, "Those that HANG, are RIPE, and are REACHED with the hook, but from nowhere by hand, as the foot is now: bits",
            "f18,5;f19,5;f23,5;f24,5;f19,6@1;f26,5;f27,5;f36,5;s10,5;s49,5");
        due("9 and 13, and 13 from the second", x.hooked(), 2 | 4 | 128);
        x.foot(1);
        due("12 to 16", x.hooked(), 4 | 8 | 32 | 128);
        x.foot(0);
        x.sleep();
        due("RIPE", x.hooked(), 2 | 4 | 16 | 128);
        x.move(0);
        x.pick(1, 1);
        due("HANGS", x.hooked(), 4 | 16 | 128);
        fresh("f19,5;f23,5;s10,5;s27,5");
        due("from nowhere by hand", x.hooked(), 0);
        says(34, "; the ROW: the STANDING from which the most of these are (of equal ones the first; NONE: there are none), how many.",
            "f19,5;f20,5;f50,5;f51,5;f52,5;f90,5;s10,5;s80,5;s61,5");
        x.hooked();
        dueRow("the third", 2, 3);
        fresh("f19,5;f70,5;f10,5;s10,5;s80,5");
        x.hooked();
        dueRow("of equal ones the first", 0, 1);
        fresh("f18,5;f24,5;s10,5");
        due("there are none", x.hooked(), 0);
        dueRow("there are none", -1, 0);
        fresh("f18,5;f9,0;f0,9");
        due("no STANDINGS", x.hooked(), 0);
        dueRow("no STANDINGS", -1, 0);
        fresh("f9,0;f0,9;s90,90");
        due("none but such as there are", x.hooked(), 0);
        fresh(EIGHT, "f79,0;f83,0;f84,0");
        due("the last of eight", x.hooked(), 3);
        dueRow("the last of eight", 7, 2);
    }

    private void broken() {
        says(35, "How many STANDINGS fewest() would tell, if one were not there: how many", "f10,5;f20,5;f30,5;s10,5;s20,5;s30,5;s15,5");
        x.set(0, 5);
        due("fewest", x.fewest(), 2);
        due("without 0", x.broken(0), 2);
        due("without 1", x.broken(1), 2);
        due("without 2", x.broken(2), 1);
        due("without 3", x.broken(3), 3);
        fresh("f10,5;s10,5");
        due("without the only one", x.broken(0), 0);
        says(35, "; the ROW: WANTED (bits; as they are now) that could not be had then (left aside).", "f10,5;f18,5;f19,5;f10,6@1;f50,5;s10,5;s26,5");
        due("without 0", x.broken(0), 1);
        dueRow("10", 1);
        due("without 1", x.broken(1), 1);
        dueRow("19", 4);
        x.foot(1);
        due("without 1", x.broken(1), 1);
        dueRow("none", 0);
        says(35, "NONE: none such.", TREE);
        x.broken(1);
        for (int s : NO_STANDINGS) due("broken(" + s + ")", x.broken(s), -1);
        dueRow("the row stays", 8);
    }

    private void sweep() {
        says(36, "The most WORTH of WANTED that are REACHED from STANDINGS whose work() together is v (0 .. 9999) SECONDS or less: how much", TREE);
        due("0", x.sweep(0), 0);
        due("14", x.sweep(14), 0);
        due("15", x.sweep(15), 4);
        due("17", x.sweep(17), 4);
        due("18", x.sweep(18), 8);
        due("46", x.sweep(46), 8);
        due("47", x.sweep(47), 12);
        due("9999", x.sweep(9999), 12);
        x.move(0);
        x.pick(1, 0);
        due("what HANGS: one of them BRUISED", x.sweep(9999), 1 + 4);
        x.sleep();
        x.foot(1);
        due("RIPE", x.sweep(9999), 1 + 2 + 4);
        says(36, "; the ROW: they (bits; of as good ones with the least work(), then the least bits), that work().", TREE);
        x.sweep(14);
        dueRow("none", 0, 0);
        x.sweep(15);
        dueRow("15", 2, 15);
        x.sweep(46);
        dueRow("46", 1, 18);
        x.sweep(47);
        dueRow("47", 6, 47);
        x.sweep(9999);
        dueRow("the least work(), not the least bits", 6, 47);
        fresh("f10,5;f90,5;s11,5;s91,5");
        due("all", x.sweep(110), 2);
        dueRow("all", 3, 110);
        due("1 less", x.sweep(109), 1);
        dueRow("1 less", 1, 15);
        fresh("f10,5;s11,5;s9,5");
        x.sweep(100);
        dueRow("then the least bits", 1, 15);
        x.sheet(2, 1, 0, 0);
        due("no WORTH", x.sweep(100), 0);
        dueRow("none", 0, 0);
        says(36, "NONE: another v.", TREE);
        x.sweep(15);
        for (int v : new int[] {-1, 10000, LEAST, MOST}) due("sweep(" + v + ")", x.sweep(v), -1);
        dueRow("the row stays", 2, 15);
    }
}
