/** Promises 37 to 43, sentence by sentence: for each bound the last that is allowed, and the first that is not. */
public final class TheDaysTest extends Sentences {
    private static final String TREE = "f10,5*3;f10,9*5;f12,20*2@1;f30,8*4;f40,30*9;s10,6;s28,10;s16,12";

    public static void main(String[] args) throws Exception {
        new TheDaysTest().judge(37, 43);
    }

    @Override
    void tests() {
        dusk();
        duskOfRows();
        duskRefused();
        gentle();
        harm();
        share();
        ripens();
        ondays();
        allripe();
    }

    private void dusk() {
        says(37, "The most WORTH that can be PICKED by hand from where the ladder is in v SECONDS", "f10,5*3;f18,5*5;f19,5*9;f10,6*9@1;f10,11*4;s10,5");
        x.move(0);
        due("1", x.dusk(1), 0);
        due("2: FRUIT 0", x.dusk(2), 3);
        due("3", x.dusk(3), 3);
        due("4: FRUIT 1", x.dusk(4), 5);
        due("5", x.dusk(5), 5);
        due("6: 0 and 1", x.dusk(6), 8);
        due("8: 0 and 1", x.dusk(8), 8);
        due("9: 1 and 4", x.dusk(9), 9);
        due("10", x.dusk(10), 9);
        due("11: 0, 1 and 4", x.dusk(11), 12);
        x.foot(1);
        due("leaning: 4", x.dusk(4), 9);
        x.sleep();
        x.move(0);
        due("RIPE: 2", x.dusk(2), 9);
        x.pick(3, 0);
        due("HANGS: 2, BRUISED", x.dusk(2), 1);
        says(37, "(0 .. 300; SECONDS with THE APRON empty", "f10,5*9;f10,5*9;f10,5*9;f10,5*9;s10,5");
        rule("99+k");
        x.move(0);
        due("0", x.dusk(0), 0);
        dueRow("0", 0, 0);
        rule("1");
        due("1", x.dusk(1), 9);
        dueRow("1", 1, 1);
        due("4", x.dusk(4), 36);
        dueRow("4", 15, 4);
        rule("2");
        due("2 each", x.dusk(1), 0);
        dueRow("2 each", 0, 0);
        due("2 each", x.dusk(3), 9);
        rule("5+o*9");
        due("by hand", x.dusk(5), 9);
        due("by hand", x.dusk(4), 0);
        rule("99+k");
        due("98", x.dusk(98), 0);
        due("99", x.dusk(99), 9);
        due("296", x.dusk(296), 18);
        due("297", x.dusk(297), 27);
        due("300", x.dusk(300), 27);
        dueRow("300", 7, 297);
        rule("75+k");
        due("299", x.dusk(299), 27);
        due("just 300", x.dusk(300), 36);
        dueRow("just 300", 15, 300);
        x.pick(0, 0);
        rule("75+k*20");
        due("one is in THE APRON", x.dusk(225), 27);
        says(37, "; its room, going DOWN and bruises left aside)", "f10,9*9;f10,8*9;f10,7*9;s10,9");
        x.set(4, 1);
        x.move(0);
        due("room 1", x.dusk(6), 27);
        x.pick(0, 0);
        due("full; those that are BRUISED", x.dusk(4), 8);
        due("nothing changed", x.count(5), 6);
    }

    private void duskOfRows() {
        says(37, ": how much; the ROW: FRUITS (bits; of as good ones the fewest SECONDS, then the least bits), SECONDS.", "f10,7*4;f10,5*3;f10,5*3;f10,5*1;f10,5*0;s10,5");
        x.move(0);
        due("2", x.dusk(2), 3);
        dueRow("1 or 2: the least bits", 2, 2);
        due("3", x.dusk(3), 4);
        dueRow("0", 1, 3);
        due("4", x.dusk(4), 6);
        dueRow("1 and 2", 6, 4);
        due("6", x.dusk(6), 7);
        dueRow("0 and 1 by 5, not 1, 2 and 3 by 6", 3, 5);
        due("300", x.dusk(300), 11);
        dueRow("all that has WORTH", 15, 9);
        fresh("f10,5*2;f10,5*2;f10,5*4;f10,5*4;s10,5");
        rule("w");
        x.move(0);
        due("4", x.dusk(4), 4);
        dueRow("0 and 1, not 2", 3, 4);
        due("8", x.dusk(8), 8);
        dueRow("0, 1 and 2", 7, 8);
        fresh("f10,5*0;s10,5");
        x.move(0);
        due("no WORTH", x.dusk(300), 0);
        dueRow("the fewest SECONDS", 0, 0);
        String[] sixteen = {"f1,1*9;f1,1*9;f1,1*9;f1,1*9;f1,1*9;f1,1*9;f1,1*9;f1,1*9;s1,1", "f1,1*9;f1,1*9;f1,1*9;f1,1*9;f1,1*9;f1,1*9;f1,1*9;f1,1*9"};
        fresh(sixteen);
        x.move(0);
        due("all 16", x.dusk(32), 144);
        dueRow("all 16", 65535, 32);
        due("15 of them", x.dusk(31), 135);
        dueRow("15 of them", 32767, 30);
    }

    private void duskRefused() {
        says(37, "-2: the ladder is nowhere", TREE);
        x.work(7);
        due("at first", x.dusk(5), -2);
        due("0", x.dusk(0), -2);
        due("300", x.dusk(300), -2);
        dueRow("the row stays", 45, 7, 8);
        x.move(0);
        due("somewhere", x.dusk(5), 8);
        x.sleep();
        due("a DAY more", x.dusk(5), -2);
        says(37, "; NONE: another v.", TREE);
        x.move(0);
        x.work(7);
        String row = theRow();
        for (int v : new int[] {-1, 301, LEAST, MOST}) due("dusk(" + v + ")", x.dusk(v), -1);
        due("the row stays", theRow(), row);
        due("300", x.dusk(300), 8);
    }

    private void gentle() {
        says(38, "The most FRUITS that can be PICKED by hand from where the ladder is, one behind another", "f18,5;f19,5;f10,5@1;f2,5;s10,5");
        x.move(0);
        due("8 is, 9 is not; one is not RIPE", x.gentle(), 2);
        dueRow("they", 0, 3);
        x.foot(1);
        due("leaning", x.gentle(), 3);
        x.sleep();
        x.move(0);
        due("RIPE", x.gentle(), 4);
        x.pick(0, 0);
        due("HANGS", x.gentle(), 3);
        says(38, ", so that none of those that HANG is BRUISED by it (THE APRON's room left aside): how many", "f10,9;f10,5@1;f12,9;f12,9;f14,9;f15,2@1;s10,5");
        x.move(0);
        x.set(4, 1);
        due("without 0 and 4, which have one BELOW that is not RIPE", x.gentle(), 2);
        dueRow("of the same HEIGHT", 2, 3);
        x.sleep();
        x.move(0);
        due("RIPE", x.gentle(), 6);
        dueRow("the lower ones first", 1, 0, 2, 3, 5, 4);
        x.pick(2, 0);
        due("THE APRON is full", x.gentle(), 5);
        fresh("f10,9;f9,5;f11,5;f8,1;f12,1;s10,5");
        x.move(0);
        due("one above another above another", x.gentle(), 5);
        dueRow("from below", 3, 1, 4, 2, 0);
        fresh("f10,9;f10,5;f10,1@1;f11,7;s10,5");
        x.move(0);
        due("one BELOW all that is not RIPE", x.gentle(), 0);
        x.sleep();
        x.move(0);
        x.pick(2, 0);
        due("PICKED, it is BELOW none", x.gentle(), 3);
        dueRow("PICKED, it is BELOW none", 1, 3, 0);
        says(38, "; the ROW: an order: the least row of all of them.", "f1,8;f1,7;f1,6;f1,5;f1,4;f1,3;f1,2;f1,1;s1,9", "f9,8;f9,7;f9,6;f9,5;f9,4;f9,3;f9,2;f9,1");
        x.move(0);
        due("all 16", x.gentle(), 16);
        dueRow("all 16", 7, 6, 5, 4, 3, 2, 1, 0, 15, 14, 13, 12, 11, 10, 9, 8);
        fresh("f1,1;f9,1;f5,1;s5,1");
        x.move(0);
        due("all free", x.gentle(), 3);
        dueRow("rising", 0, 1, 2);
        fresh("f90,90;s5,1");
        x.move(0);
        due("none", x.gentle(), 0);
        dueRow("none");
        says(38, "-2: the ladder is nowhere.", TREE);
        x.work(7);
        due("at first", x.gentle(), -2);
        dueRow("the row stays", 45, 7, 8);
        x.move(0);
        due("somewhere", x.gentle(), 2);
        x.sleep();
        due("a DAY more", x.gentle(), -2);
    }

    private void harm() {
        says(39, "FRUITS (bits) that would be BRUISED, if all WANTED that are REACHED from where the ladder is were PICKED by numbers",
            "f10,9;f10,5;f11,4@1;f12,3@1;f9,2;f10,1;f30,9;f30,1;s10,5;s30,5");
        x.move(0);
        due("by numbers: 1, 2, 4 and 5 by 0, and by 1 those below it", x.harm(), 2 | 4 | 16 | 32);
        x.move(1);
        due("from elsewhere", x.harm(), 128);
        fresh("f10,1;f10,5;f10,9;s10,5");
        x.move(0);
        due("the lower ones first", x.harm(), 0);
        fresh("f10,5;f10,9;f10,1;s10,5");
        x.move(0);
        due("one that HANGS no more is not", x.harm(), 4);
        fresh("f10,5;f50,9;f10,9;f10,1;f10,7;s10,5");
        x.move(0);
        due("nor is one that is not BELOW yet, or no more", x.harm(), 8 | 16);
        fresh("f18,9;f18,1@1;f19,9;f19,1@1;f20,1@1;s10,9");
        x.move(0);
        due("8 is, 9 is not", x.harm(), 2 | 8);
        x.foot(1);
        due("leaning", x.harm(), 2 | 8 | 16);
        due("nothing changed", x.count(9), 0);
        fresh("f10,9;f10,5;f10,1;s10,5");
        x.move(0);
        x.pick(1, 0);
        due("one that HANGS no more is BELOW none", x.harm(), 4);
        says(39, "; the ROW: by how much WORTH is less so.", "f10,9*9;f10,5*5;f11,4*8@1;f9,1*1;f9,0*0;s10,5");
        x.move(0);
        due("four", x.harm(), 2 | 4 | 8 | 16);
        dueRow("of 5, 8, 1 and 0", 3 + 4 + 1 + 0);
        x.pick(0, 0);
        x.harm();
        dueRow("all are BRUISED already", 0);
        fresh("f10,9;s10,9");
        x.move(0);
        due("none", x.harm(), 0);
        dueRow("none", 0);
        says(39, "-2: the ladder is nowhere.", TREE);
        x.work(7);
        due("at first", x.harm(), -2);
        dueRow("the row stays", 45, 7, 8);
        x.move(0);
        due("somewhere", x.harm(), 0);
        x.sleep();
        due("a DAY more", x.harm(), -2);
    }

    private void share() {
        says(40, "STANDINGS told as bits are shared by two, each FRUIT that is WANTED from the first of them by which it is REACHED"
            + ", moves and going DOWN left aside", "f18,5;f19,5;f10,5;f10,6@1;s10,5;s26,5;s18,95");
        rule("(s+1)*10+k*5+o*7");
        due("the first has 18 and 10, the second 19", x.share(3), 20);
        dueRow("the first has 18 and 10, the second 19", 1, 20);
        due("the second alone", x.share(2), 40);
        due("the third, which has none but 18, 19 and 10", x.share(4), 90);
        due("the second and the third", x.share(6), 40);
        dueRow("18 and 19; 10", 2, 30);
        x.foot(1);
        due("leaning: the first has all", x.share(3), 30);
        x.sleep();
        due("RIPE", x.share(1), 40);
        x.move(0);
        x.pick(0, 0);
        due("HANGS", x.share(1), 30);
        says(40, ": the least SECONDS in which both are through: how many; the ROW: STANDINGS (bits) of the one (the least such), SECONDS of the other.",
            "f10,5;f30,5;f50,5;f70,5;s10,5;s30,5;s50,5;s70,5");
        due("two each", x.share(15), 4);
        dueRow("the least", 3, 4);
        rule("(s+1)*10");
        due("10 and 40, 20 and 30", x.share(15), 50);
        dueRow("the least", 6, 50);
        due("10 and 20, 30", x.share(7), 30);
        dueRow("the least", 3, 30);
        due("10, 30", x.share(5), 30);
        dueRow("the least", 1, 30);
        due("one", x.share(8), 40);
        dueRow("the least is none", 0, 40);
        due("none", x.share(0), 0);
        dueRow("none", 0, 0);
        fresh("s0,0;s10,0;s20,0;s30,0;s40,0;s50,0;s60,0;s70,0", "f0,0;f10,0;f20,0;f30,0;f40,0;f50,0;f60,0;f70,0");
        due("all eight", x.share(255), 8);
        dueRow("all eight", 15, 8);
        rule("1+(s=7)*7");
        due("the last as long as all others", x.share(255), 8);
        dueRow("the last as long as all others", 127, 8);
        fresh("f10,5;s50,5;s90,5");
        due("none is REACHED", x.share(3), 0);
        dueRow("none is REACHED", 0, 0);
        says(40, "NONE: bits of none such.", TREE);
        x.work(7);
        for (int those : new int[] {8, 256, -1, LEAST, MOST}) due("share(" + those + ")", x.share(those), -1);
        dueRow("the row stays", 45, 7, 8);
        due("all there are", x.share(7), 5);
    }

    private void ripens() {
        says(41, "How many FRUITS that HANG are RIPE first in each DAY from now to 9: the most in one DAY (those that are RIPE now count for now)",
            "f1,1;f1,1@1;f1,1@1;f1,1@9;f1,1@9;f1,1@9;s1,1");
        due("three in DAY 9", x.ripens(), 3);
        dueRow("DAY 9", 9, 1);
        x.sleep();
        due("three now, three in DAY 9", x.ripens(), 3);
        dueRow("now", 1, 1);
        x.move(0);
        x.pick(0, 0);
        due("what HANGS", x.ripens(), 3);
        dueRow("DAY 9", 9, 1);
        sleep(8);
        due("all, in DAY 9", x.ripens(), 5);
        dueRow("DAY 9", 9, 1);
        says(41, "; the ROW: that DAY (the first)", "f1,1@3;f1,1@5;f1,1@8");
        due("one each", x.ripens(), 1);
        dueRow("the first", 3, 0);
        sleep(2);
        x.ripens();
        dueRow("the first", 3, 0);
        sleep(2);
        x.ripens();
        dueRow("now", 4, 0);
        fresh();
        due("no FRUITS", x.ripens(), 0);
        dueRow("now", 0, 0);
        x.sleep();
        x.ripens();
        dueRow("now", 1, 0);
        says(41, ", then how many fewest() would tell in DAY 9, if all hung yet that do now.", "f10,5;f30,5@9;f50,5@8;f81,5@9;s10,5;s30,5;s50,5;s70,5");
        x.ripens();
        dueRow("three", 9, 3);
        x.foot(1);
        x.ripens();
        dueRow("as the foot is now", 9, 4);
        x.move(0);
        x.pick(0, 0);
        x.ripens();
        dueRow("what HANGS", 9, 3);
    }

    private void ondays() {
        says(42, "The fewest STANDINGS for those that HANG, are RIPE first in a DAY (now to 9; now: all that are RIPE), and REACHED by hand from some STANDING, as the foot is now"
            + ": how many", "f10,5;f30,5@1;f50,5@2;f81,5@9;f30,6@9;s10,5;s30,5;s50,5;s70,5");
        int[] due = {1, 1, 1, 0, 0, 0, 0, 0, 0, 1};
        for (int d = 0; d <= 9; d++) due("DAY " + d, x.ondays(d), due[d]);
        x.foot(1);
        due("leaning: 11", x.ondays(9), 2);
        x.sleep();
        due("now: all that are RIPE", x.ondays(1), 2);
        due("DAY 2", x.ondays(2), 1);
        x.move(0);
        x.pick(0, 0);
        due("what HANGS", x.ondays(1), 1);
        sleep(8);
        due("in DAY 9: all", x.ondays(9), 3);
        says(42, "; the ROW: they, as fewest().", "f10,5@4;f20,5@4;f30,5@4;s10,5;s15,5;s30,5;s25,5");
        x.set(0, 5);
        due("two", x.ondays(4), 2);
        dueRow("rising, the least row", 0, 3);
        due("none", x.ondays(3), 0);
        dueRow("none");
        says(42, "NONE: another DAY.", "f1,1@4;s1,1");
        x.ondays(4);
        for (int d : new int[] {-1, 10, LEAST, MOST}) due("ondays(" + d + ")", x.ondays(d), -1);
        sleep(3);
        due("DAY 2 in DAY 3", x.ondays(2), -1);
        dueRow("the row stays", 0);
        due("now", x.ondays(3), 0);
        due("9", x.ondays(9), 0);
    }

    private void allripe() {
        says(43, "The first DAY (now to 9) in which all that HANG are RIPE", "f1,1;f1,1@3;f1,1@9;s1,1");
        due("9", x.allripe(), 9);
        sleep(9);
        due("now, 9", x.allripe(), 9);
        fresh("f1,1;f1,1@3;s1,1");
        due("3", x.allripe(), 3);
        sleep(2);
        due("3", x.allripe(), 3);
        sleep(1);
        due("now", x.allripe(), 3);
        sleep(1);
        due("now, later", x.allripe(), 4);
        fresh();
        due("no FRUITS", x.allripe(), 0);
        dueRow("none", 0, 0);
        fresh("f1,1@1;f50,1@5;s1,1");
        sleep(1);
        x.move(0);
        x.pick(0, 0);
        due("what HANGS", x.allripe(), 5);
        says(43, "; the ROW: how many are not now, WORTH of these.", "f1,9*9;f1,5*9@1;f1,4*2@2;f50,1*6@2;s1,5");
        x.allripe();
        dueRow("three", 3, 17);
        x.move(0);
        x.pick(0, 0);
        x.allripe();
        dueRow("two are BRUISED", 3, 4 + 1 + 6);
        x.sleep();
        x.allripe();
        dueRow("two", 2, 1 + 6);
        x.sleep();
        x.allripe();
        dueRow("none", 0, 0);
    }
}
