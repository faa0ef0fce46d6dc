/** The terms, sentence by sentence: for each bound the last that is allowed, and the first that is not. */
public final class TermsTest extends Sentences {
    public static void main(String[] args) throws Exception {
        new TermsTest().judge(0, 0);
    }

    @Override
    void tests() {
        calls();
        fruits();
        whereFruitsAre();
        standings();
        linesOfFruits();
        linesOfStandings();
        settings();
        reached();
        theRule();
        binding();
        things();
        letters();
        ints();
        moves();
        goingDown();
        apron();
        below();
        picked();
        wrongPicks();
        worth();
        clock();
        rowsAndBits();
        questionsChangeNothing();
        refusedCallsChangeNothing();
        wanted();
    }

    private void calls() {
        says(0, "An object is used for at most 512 calls after it has been made; what later calls answer is free.");
        for (int i = 1; i <= 511; i++) x.foot(i % 2);
        due("the 512th call", x.foot(0), 1);
        fresh();
        for (int i = 1; i <= 20; i++) x.sign(0);
        for (int i = 21; i <= 511; i++) x.sign(0);
        due("the 512th call", x.sign(0), -1);
    }

    private void fruits() {
        says(0, "1. FRUITS 0 .. (at most 16)");
        due("no FRUIT 0 yet", fruit(0, 0), MISSING);
        for (int i = 0; i < 16; i++) due("FRUIT " + i, orchard("f" + i + ",5"), 1);
        due("a 17th", orchard("f16,5"), -1);
        due("how many there are", x.count(0), 16);
        due("the first", fruit(0, 0), 0);
        due("the last", fruit(15, 0), 15);
        due("none such", fruit(16, 0), MISSING);
        due("bits of all", x.count(5), 65535);
        says(0, "at X 0 .. 99");
        due("0", orchard("f0,5"), 1);
        due("99", orchard("f99,5"), 1);
        due("100", orchard("f100,5"), -1 - 3);
        due("-1", orchard("f-1,5"), -1 - 1);
        due("the first's", fruit(0, 0), 0);
        due("the second's", fruit(1, 0), 99);
        due("no other came", x.count(0), 2);
        says(0, "HEIGHT 0 .. 99");
        due("0", orchard("f5,0"), 1);
        due("99", orchard("f5,99"), 1);
        due("100", orchard("f5,100"), -1 - 5);
        due("-1", orchard("f5,-1"), -1 - 3);
        due("the first's", fruit(0, 1), 0);
        due("the second's", fruit(1, 1), 99);
        due("no other came", x.count(0), 2);
        says(0, "WORTH 0 .. 9");
        due("0", orchard("f5,5*0"), 1);
        due("9", orchard("f5,5*9"), 1);
        due("10", orchard("f5,5*10"), -1 - 6);
        due("-1", orchard("f5,5*-1"), -1 - 5);
        due("the first's", fruit(0, 2), 0);
        due("the second's", fruit(1, 2), 9);
        due("no other came", x.count(0), 2);
        says(0, "RIPE from DAY 0 .. 9 on");
        due("0", orchard("f5,5@0"), 1);
        due("9", orchard("f5,5@9;s5,5"), 2);
        due("10", orchard("f5,5@10"), -1 - 6);
        due("-1", orchard("f5,5@-1"), -1 - 5);
        x.move(0);
        due("RIPE from DAY 0 on, in DAY 0", x.pick(0, 0), 2);
        due("RIPE from DAY 9 on, in DAY 0", x.pick(1, 0), -3);
        sleep(8);
        x.move(0);
        due("RIPE from DAY 9 on, in DAY 8", x.pick(1, 0), -3);
        sleep(1);
        x.move(0);
        due("RIPE from DAY 9 on, in DAY 9", x.pick(1, 0), 2);
    }

    private void whereFruitsAre() {
        says(0, "it HANGS (at first), is in the APRON, in the BASKET, or on the GROUND", "f10,5;f10,9@1;s10,5");
        due("at first", fruit(0, 4), 0);
        due("at first, one that is not RIPE", fruit(1, 4), 0);
        x.move(0);
        x.pick(0, 0);
        due("PICKED", fruit(0, 4), 1);
        x.sleep();
        due("a DAY more", fruit(0, 4), 2);
        x.move(0);
        x.shake();
        due("shaken", fruit(1, 4), 3);
        due("each is in one place alone", x.count(5) + x.count(6) * 10 + x.count(7) * 100 + x.count(8) * 1000, 2100);
        says(0, "BRUISED or not", "f10,5;f10,9;f20,1;s10,5");
        due("at first not", fruit(0, 5), 0);
        x.move(0);
        x.pick(1, 0);
        due("below one that was PICKED", fruit(0, 5), 1);
        due("the one that was PICKED", fruit(1, 5), 0);
        due("one elsewhere", fruit(2, 5), 0);
    }

    private void standings() {
        says(0, "STANDINGS 0 .. (at most 8)");
        due("no STANDING 0 yet", standing(0, 0), MISSING);
        for (int i = 0; i < 8; i++) due("STANDING " + i, orchard("s" + i + ",5"), 1);
        due("a ninth", orchard("s8,5"), -1);
        due("how many there are", x.count(1), 8);
        due("the first", standing(0, 0), 0);
        due("the last", standing(7, 0), 7);
        due("none such", standing(8, 0), MISSING);
        due("bits of all", x.marks(4, 99), 255);
        says(0, "FOOT 0 .. 99 (its X)");
        due("0", orchard("s0,5"), 1);
        due("99", orchard("s99,5"), 1);
        due("100", orchard("s100,5"), -1 - 3);
        due("-1", orchard("s-1,5"), -1 - 1);
        due("the first's", standing(0, 0), 0);
        due("the second's", standing(1, 0), 99);
        due("no other came", x.count(1), 2);
        says(0, "FORK 0 .. 99 (how high one can stand on it)");
        due("0", orchard("s5,0"), 1);
        due("99", orchard("s5,99"), 1);
        due("100", orchard("s5,100"), -1 - 5);
        due("-1", orchard("s5,-1"), -1 - 3);
        due("the first's", standing(0, 1), 0);
        due("the second's", standing(1, 1), 99);
        due("no other came", x.count(1), 2);
    }

    private void linesOfFruits() {
        says(0, "THE ORCHARD is told by a text of at most 76 signs");
        String most = "f11,11*1@1;".repeat(6) + "f11,11*1@1";
        due("76 signs", most.length() == 76 ? orchard(most) : 0, 7);
        fresh();
        due("77 signs", orchard("f01,1;" + "f11,11*1@1;".repeat(6) + "f1,11"), -1 - 76);
        due("none came", x.count(0), 0);
        says(0, "LINES with ; between");
        due("one", orchard("f1,1"), 1);
        due("two", orchard("f1,1;f1,1"), 2);
        due("; ahead", orchard(";f1,1"), -1);
        due("; behind", orchard("f1,1;"), -1 - 5);
        due("two of them", orchard("f1,1;;f1,1"), -1 - 5);
        due("none between", orchard("f1,1f1,1"), -1 - 4);
        due("another sign between", orchard("f1,1:f1,1"), -1 - 4);
        due("three came", x.count(0), 3);
        says(0, "what they tell comes behind what there is", "f1,1;s1,1");
        due("two LINES more", orchard("s2,2;f2,2"), 2);
        due("FRUIT 0", fruit(0, 0), 1);
        due("FRUIT 1", fruit(1, 0), 2);
        due("STANDING 0", standing(0, 0), 1);
        due("STANDING 1", standing(1, 0), 2);
        says(0, "f, X, a comma, HEIGHT (1 or 2 digits each)");
        due("1 digit each", orchard("f1,2"), 1);
        due("2 digits each", orchard("f03,04"), 1);
        due("X", fruit(0, 0) * 100 + fruit(1, 0), 103);
        due("HEIGHT", fruit(0, 1) * 100 + fruit(1, 1), 204);
        due("no digit of X", orchard("f,2"), -1 - 1);
        due("3 digits of X", orchard("f001,2"), -1 - 3);
        due("no comma", orchard("f1.2"), -1 - 2);
        due("no digit of HEIGHT", orchard("f1,"), -1 - 3);
        due("no digit of HEIGHT, but more", orchard("f1,*2"), -1 - 3);
        due("3 digits of HEIGHT", orchard("f1,002"), -1 - 5);
        due("the sign ahead of 0", orchard("f/,1"), -1 - 1);
        due("the sign behind 9", orchard("f:,1"), -1 - 1);
        due("a great F", orchard("F1,1"), -1);
        says(0, "perhaps * and a digit (WORTH, else 1)");
        due("with it", orchard("f1,1*7"), 1);
        due("WORTH", fruit(0, 2), 7);
        due("without", orchard("f1,1"), 1);
        due("WORTH", fruit(1, 2), 1);
        due("no digit", orchard("f1,1*"), -1 - 5);
        due("no digit, but more", orchard("f1,1*@1"), -1 - 5);
        due("2 digits", orchard("f1,1*07"), -1 - 6);
        due("twice", orchard("f1,1*7*7"), -1 - 6);
        says(0, "perhaps @ and a digit (RIPE, else 0): a FRUIT");
        due("with it", orchard("f1,1@7"), 1);
        due("RIPE", fruit(0, 3), 7);
        due("WORTH without *", fruit(0, 2), 1);
        due("without", orchard("f1,1"), 1);
        due("RIPE", fruit(1, 3), 0);
        due("both", orchard("f1,1*6@5"), 1);
        due("WORTH, RIPE", fruit(2, 2) * 10 + fruit(2, 3), 65);
        due("no digit", orchard("f1,1@"), -1 - 5);
        due("2 digits", orchard("f1,1@07"), -1 - 6);
        due("twice", orchard("f1,1@7@7"), -1 - 6);
        due("ahead of *", orchard("f1,1@7*7"), -1 - 6);
    }

    private void linesOfStandings() {
        says(0, "s, FOOT, a comma, FORK (1 or 2 digits each): a STANDING");
        due("1 digit each", orchard("s1,2"), 1);
        due("2 digits each", orchard("s03,04"), 1);
        due("FOOT", standing(0, 0) * 100 + standing(1, 0), 103);
        due("FORK", standing(0, 1) * 100 + standing(1, 1), 204);
        due("no digit of FOOT", orchard("s,2"), -1 - 1);
        due("3 digits of FOOT", orchard("s001,2"), -1 - 3);
        due("no comma", orchard("s1;2"), -1 - 2);
        due("no digit of FORK", orchard("s1,"), -1 - 3);
        due("3 digits of FORK", orchard("s1,002"), -1 - 5);
        due("a WORTH", orchard("s1,2*1"), -1 - 4);
        due("a RIPE", orchard("s1,2@1"), -1 - 4);
        due("a great S", orchard("S1,1"), -1);
        due("no FRUIT came", x.count(0), 0);
    }

    private void bounds(int what, int least, int most, int first) {
        due("less", x.set(what, least - 1), -1);
        due("more", x.set(what, most + 1), -1);
        due("at first", x.set(what, least), first);
        due("the least", x.set(what, most), least);
        due("the most", x.set(what, most), most);
    }

    private void settings() {
        says(0, "ARM 0 .. 30 (at first 8)");
        bounds(0, 0, 30, 8);
        says(0, "LEAN 0 .. 30 (at first 3)");
        bounds(1, 0, 30, 3);
        says(0, "HOOK 0 .. 30 (at first 5)");
        bounds(2, 0, 30, 5);
        says(0, "REACH: ARM", "f8,5;f9,5;s0,5");
        due("8 by 8", x.from(0, 0), 1);
        due("9 by 8", x.from(1, 0), 0);
        x.set(0, 30);
        fresh("f30,5;f31,5;s0,5");
        x.set(0, 30);
        due("30 by 30", x.from(0, 0), 1);
        due("31 by 30", x.from(1, 0), 0);
        says(0, "LEAN more, if one is at the foot", "f11,5;f12,5;s0,5");
        due("11, nobody at the foot", x.from(0, 0), 0);
        x.foot(1);
        due("11 by 8 and 3", x.from(0, 0), 1);
        due("12 by 8 and 3", x.from(1, 0), 0);
        says(0, "HOOK more, if the hook is used.", "f13,5;f14,5;f16,5;f17,5;f90,5;f91,5;s0,5");
        due("13 by hand", x.from(0, 0), 0);
        due("13 by 8 and 5", x.from(0, 1), 1);
        due("14 by 8 and 5", x.from(1, 1), 0);
        x.foot(1);
        due("16 by 8, 3 and 5", x.from(2, 1), 1);
        due("17 by 8, 3 and 5", x.from(3, 1), 0);
        for (int what = 0; what < 3; what++) x.set(what, 30);
        due("90 by 30, 30 and 30", x.from(4, 1), 1);
        due("91 by 30, 30 and 30", x.from(5, 1), 0);
    }

    private void reached() {
        says(0, "A FRUIT is REACHED from a STANDING, if the square of how far X is from FOOT, and the square of how much HEIGHT is above FORK"
            + " (0, if it is not), are together no more than the square of REACH.",
            "s50,50;f53,54;f47,54;f54,54;f53,55;f55,50;f45,50;f56,50;f44,50", "f50,55;f50,56;f55,49;f55,0;f56,0;f50,50;f51,50;f50,51");
        x.set(0, 5);
        due("no more than 25", x.reached(0), 1 | 2 | 16 | 32 | 256 | 1024 | 2048 | 8192 | 16384 | 32768);
        x.set(0, 0);
        due("no more than 0", x.reached(0), 8192);
        x.set(0, 1);
        due("no more than 1", x.reached(0), 8192 | 16384 | 32768);
        x.set(0, 30);
        due("no more than 900", x.reached(0), 65535);
        fresh("s50,0;f74,10;f75,10;f74,11;f26,10");
        x.set(0, 26);
        due("24 and 10 are 26, no more", x.reached(0), 1 | 8);
        x.set(0, 25);
        due("not 25", x.reached(0), 0);
        fresh("s0,0;f99,99;f54,72;f55,72;f54,73");
        for (int what = 0; what < 3; what++) x.set(what, 30);
        x.reached(0);
        dueRow("54 and 72 are 90", 0, 2);
    }

    private int reckoned(String text) {
        int answer = rule(text);
        return answer == 0 ? x.seconds(0, 0, 0) : answer;
    }

    private void theRule() {
        says(0, "THE RULE is a text of at most 40 signs", "f1,1;s1,1");
        due("40 signs", reckoned("1+".repeat(18) + "1+10"), 29);
        due("41 signs", reckoned("1+".repeat(19) + "100"), -1 - 40);
        due("the one before stays", x.seconds(0, 0, 0), 29);
        says(0, "(at first none: 2+d/4+u/2)", "s50,50;f50,50;f53,50;f54,50;f57,50;f58,50;f50,51;f50,52", "f50,53;f50,54;f46,54;f50,0");
        int[] due = {2, 2, 3, 3, 4, 2, 3, 3, 4, 5, 2};
        for (int f = 0; f < due.length; f++) due("FRUIT " + f, x.seconds(f, 0, 0), due[f]);
        rule("7");
        due("another", x.seconds(0, 0, 0), 7);
        due("none again", rule(""), 0);
        for (int f = 0; f < due.length; f++) due("FRUIT " + f, x.seconds(f, 0, 0), due[f]);
    }

    private void binding() {
        says(0, "EXPRESSION: < > = bind least", "f1,1;s1,1");
        due("ahead", reckoned("9*(1+2=3)"), 9);
        due("behind", reckoned("9*(3=1+2)"), 9);
        due("less", reckoned("9*(2<1*3)"), 9);
        due("more", reckoned("9*(4>6/2)"), 9);
        due("- ahead", reckoned("9*(-1<0)"), 9);
        says(0, "(two; 1 or 0; not one behind the other)", "f1,1;s1,1");
        String[] texts = {"5+(2<3)", "5+(3<3)", "5+(4<3)", "5+(2>3)", "5+(3>3)", "5+(4>3)", "5+(2=3)", "5+(3=3)", "5+(4=3)"};
        int[] due = {6, 5, 5, 5, 5, 6, 5, 6, 5};
        for (int i = 0; i < due.length; i++) due(texts[i], reckoned(texts[i]), due[i]);
        for (char one : "<>=".toCharArray()) for (char other : "<>=".toCharArray()) {
            due("two behind each other", rule("1" + one + "2" + other + "3"), -1 - 3);
            due("with more between", rule("1" + one + "2+(4)*5" + other + "3"), -1 - 9);
            due("in ( ) too", rule("(1" + one + "2" + other + "3)"), -1 - 4);
            due("none between", rule("1" + one + other + "3"), -1 - 2);
            due("( ) ahead", rule("(1" + one + "2)" + other + "3"), 0);
            due("( ) behind", rule("1" + one + "(2" + other + "3)"), 0);
            due("behind ( ) behind", rule("1" + one + "(2" + other + "3)" + other + "4"), -1 - 7);
            due("two ( ), then one more", rule("(1" + one + "2)+(3" + other + "4)=5"), 0);
        }
        due("the last of these", x.seconds(0, 0, 0), 1);
        due("nothing ahead", rule("<1"), -1);
        due("nothing behind", rule("1<"), -1 - 2);
        says(0, "then + - (from the left)", "f1,1;s1,1");
        due("- -", reckoned("10-3-2"), 5);
        due("- +", reckoned("10-3+2"), 9);
        due("+ -", reckoned("3+9-2"), 10);
        due("nothing behind +", rule("1+"), -1 - 2);
        due("nothing behind -", rule("1-"), -1 - 2);
        due("+ ahead", rule("+1"), -1);
        says(0, "then * / (from the left; by 0: 0; cut to 0)", "f1,1;s1,1");
        due("ahead of +", reckoned("2+3*4"), 14);
        due("ahead of -", reckoned("20-8/4"), 18);
        due("and then +", reckoned("3*4+2"), 14);
        due("/ /", reckoned("24/4/2"), 3);
        due("/ *", reckoned("24/5*2"), 8);
        due("* /", reckoned("7*3/2"), 10);
        due("by 0", reckoned("9/0+5"), 5);
        due("0 by 0", reckoned("0/0+5"), 5);
        due("by what is 0", reckoned("9/(1-1)+5"), 5);
        due("less than 0, cut", reckoned("9+(0-7)/2"), 6);
        due("by less than 0, cut", reckoned("9+7/-2"), 6);
        due("both", reckoned("9+(0-7)/-2"), 12);
        due("less than 1", reckoned("9+1/2"), 9);
        due("more than -1", reckoned("9+-1/2"), 9);
        due("* ahead", rule("*1"), -1);
        due("nothing behind *", rule("1*"), -1 - 2);
        due("nothing behind /", rule("1/"), -1 - 2);
        due("two", rule("1*/2"), -1 - 2);
        says(0, "then - ahead of a thing (any many)", "f1,1;s1,1");
        due("one", reckoned("-5+9"), 4);
        due("two", reckoned("--5"), 5);
        due("three", reckoned("---5+9"), 4);
        due("behind -", reckoned("3--2"), 5);
        due("behind *", reckoned("2*-3+10"), 4);
        due("behind <", reckoned("5+(-2<-1)"), 6);
        due("ahead of ( )", reckoned("-(2-7)"), 5);
        due("37", reckoned("9+" + "-".repeat(37) + "5"), 4);
        due("36", reckoned("9+" + "-".repeat(36) + "5"), 14);
        due("40 and nothing behind", rule("-".repeat(40)), -1 - 40);
        due("+ behind it", rule("-+1"), -1 - 1);
    }

    private void things() {
        says(0, "things: a NUMBER of 1 to 3 digits", "f1,1;s1,1");
        due("1", reckoned("7"), 7);
        due("2", reckoned("77"), 77);
        due("3", reckoned("999-990"), 9);
        due("3 with 0 ahead", reckoned("007"), 7);
        due("4", rule("1000"), -1 - 3);
        due("4 with 0 ahead", rule("0001"), -1 - 3);
        due("4 behind another", rule("1+1000"), -1 - 5);
        due("none", rule("()"), -1 - 1);
        due("a thing behind it", rule("7d"), -1 - 1);
        due("a number behind a thing", rule("d7"), -1 - 1);
        due("the sign ahead of 0", rule("/"), -1);
        due("the sign behind 9", rule(":"), -1);
        says(0, "an EXPRESSION in ( ) (at most 4 in one another)", "f1,1;s1,1");
        due("4", reckoned("((((7))))"), 7);
        due("5", rule("(((((7)))))"), -1 - 4);
        due("5 behind another thing", rule("1+(2*(3+(4*(5+("), -1 - 14);
        due("4, and 4 once more", reckoned("((((1))))+((((6))))"), 7);
        due("4, and a fifth behind 3", reckoned("((((1)))+(6))"), 7);
        due("4, two closed, then two", reckoned("((((1))+((6))))"), 7);
        due("4, two closed, then three", rule("((((1))+(((6"), -1 - 10);
        due("nothing in it", rule("1+()"), -1 - 3);
        due("not closed", rule("(1"), -1 - 2);
        due("one of 4 not closed", rule("((((1)))"), -1 - 8);
        due("closed once too often", rule("(1))"), -1 - 3);
        due("closed, never opened", rule("1)"), -1 - 1);
        due("closed ahead of a thing", rule("(1+)"), -1 - 3);
        due("none between", rule("(1)(2)"), -1 - 3);
    }

    private void letters() {
        says(0, "of a FRUIT from a STANDING: d how far X is from FOOT", "s50,50;f53,50;f47,50;f50,50");
        rule("d+1");
        due("behind", x.seconds(0, 0, 0), 4);
        due("ahead", x.seconds(1, 0, 0), 4);
        due("there", x.seconds(2, 0, 0), 1);
        says(0, "u how much HEIGHT is above FORK (0, if it is not)", "s50,50;f50,51;f50,50;f50,49;f50,0;f50,58");
        rule("u+1");
        int[] due = {2, 1, 1, 1, 9};
        for (int f = 0; f < 5; f++) due("FRUIT " + f, x.seconds(f, 0, 0), due[f]);
        says(0, "y HEIGHT", "s50,50;f50,58;f50,0");
        rule("y+1");
        due("58", x.seconds(0, 0, 0), 59);
        due("0", x.seconds(1, 0, 0), 1);
        says(0, "w WORTH", "s50,50;f50,58*9;f50,54*0;f50,50*9");
        rule("w+1");
        due("9", x.seconds(0, 0, 0), 10);
        due("0", x.seconds(1, 0, 0), 1);
        x.move(0);
        x.pick(0, 0);
        due("9 that counts half", x.seconds(2, 0, 0), 5);
        says(0, "s the STANDING's number", "s1,1;s1,1;s1,1;s1,1;s1,1;s1,1;s1,1;s1,1;f1,1");
        rule("s+1");
        for (int s = 0; s < 8; s++) due("STANDING " + s, x.seconds(0, s, 0), s + 1);
        says(0, "k how many are in the APRON (0 where it is thought of)", "f1,1;f1,2;f1,3;s1,1");
        rule("k+1");
        x.move(0);
        due("none", x.pick(0, 0), 1);
        due("one", x.pick(1, 0), 2);
        due("thought of", x.seconds(2, 0, 0), 1);
        x.work(1);
        dueRow("thought of", 0, 1, 4);
        due("two", x.pick(2, 0), 3);
        x.undo();
        x.down();
        due("none again", x.pick(2, 0), 1);
        says(0, "o 1 with the hook.", "f1,1;s1,1");
        rule("o+5");
        due("by hand", x.seconds(0, 0, 0), 5);
        due("with the hook", x.seconds(0, 0, 1), 6);
        x.move(0);
        due("PICKED with it", x.pick(0, 1), 6);
        due("a letter that is none", rule("x"), -1);
        due("a great letter", rule("D"), -1);
    }

    private void ints() {
        says(0, "As ints", "f1,1;s1,1");
        due("more than an int holds is less than 0", reckoned("5+(128*128*128*128*8<0)"), 6);
        due("one less is not", reckoned("5+(128*128*128*128*8-1<0)"), 5);
        due("the least int by -1 is itself", reckoned("5+(128*128*128*128*8/-1<0)"), 6);
        due("- ahead of it too", reckoned("5+(-(128*128*128*128*8)<0)"), 6);
        due("twice as much is 0", reckoned("5+(128*128*128*128*16=0)"), 6);
        due("it goes on behind the greatest", reckoned("999*999*999*3"), 1);
        due("not yet", reckoned("999*999*999*2"), 99);
        due("less than the least", reckoned("5+(-(128*128*128*128*8)-1>0)"), 6);
        says(0, "put to 1 .. 99: SECONDS it takes.", "f1,1;s1,1");
        String[] texts = {"0-1", "0", "1", "2", "98", "99", "100", "999", "-999*999"};
        int[] due = {1, 1, 1, 2, 98, 99, 99, 99, 1};
        for (int i = 0; i < due.length; i++) {
            due(texts[i], reckoned(texts[i]), due[i]);
            if (i == 0) x.move(0);
            due(texts[i] + ", PICKED", x.pick(0, 0), due[i]);
            x.undo();
        }
    }

    private void moves() {
        says(0, "A MOVE from a STANDING to another one takes 9 SECONDS", "s10,10;s10,20;s11,30");
        x.move(0);
        due("with the same FOOT", x.move(1), 9);
        due("CLOCK", x.count(4), 18);
        x.set(3, 0);
        due("MOVING 0", x.move(2), 9);
        says(0, "and MOVING (0 .. 9, at first 1) times how far FOOT is from FOOT", "s0,0;s99,0;s98,0");
        x.move(0);
        due("by 1", x.move(1), 9 + 99);
        due("by 1, back", x.move(0), 9 + 99);
        x.set(3, 9);
        due("by 9", x.move(1), 9 + 891);
        due("by 9, near", x.move(2), 9 + 9);
        due("less than 0", x.set(3, -1), -1);
        due("10", x.set(3, 10), -1);
        due("9", x.set(3, 0), 9);
        due("by 0", x.move(0), 9);
        says(0, "the first one, from none, 9.", "s99,99");
        x.set(3, 9);
        due("the first", x.move(0), 9);
        x.sleep();
        due("the first of a DAY", x.move(0), 9);
    }

    private void goingDown() {
        says(0, "Going DOWN from a STANDING takes 3 SECONDS, and one for each begun 10 of FORK.",
            "s1,0;s1,1;s1,9;s1,10;s1,11;s1,90;s1,91;s1,99", "f1,0;f1,1;f1,2");
        int[] due = {3, 4, 4, 4, 5, 12, 13, 13};
        for (int s = 0; s < 8; s++) due("STANDING " + s, standing(s, 2), due[s]);
        x.move(0);
        x.pick(0, 0);
        int before = x.count(4);
        x.down();
        due("by FORK 0", x.count(4) - before, 3);
        x.pick(1, 0);
        due("with a move", x.move(7), 9 + 3);
        x.pick(2, 0);
        before = x.count(4);
        x.down();
        due("by FORK 99", x.count(4) - before, 13);
    }

    private void apron() {
        says(0, "THE APRON holds 1 .. 16 (at first 6).", "f1,0;f1,1;f1,2;f1,3;f1,4;f1,5;f1,6;f1,7;s1,9", "f1,8;f1,9;f1,9;f1,9;f1,9;f1,9;f1,9;f1,9");
        due("0", x.set(4, 0), -1);
        due("17", x.set(4, 17), -1);
        x.move(0);
        for (int f = 0; f < 6; f++) due("FRUIT " + f, x.pick(f, 0), 2);
        due("a seventh", x.pick(6, 0), -5);
        x.set(4, 1);
        x.down();
        due("one", x.pick(6, 0), 2);
        due("a second", x.pick(7, 0), -5);
        fresh("f1,0;f1,1;f1,2;f1,3;f1,4;f1,5;f1,6;f1,7;s1,9", "f1,8;f1,9;f1,9;f1,9;f1,9;f1,9;f1,9;f1,9");
        x.set(4, 15);
        x.move(0);
        for (int f = 0; f < 15; f++) x.pick(f, 0);
        due("a 16th of 15", x.pick(15, 0), -5);
        x.set(4, 16);
        due("the 16th of 16", x.pick(15, 0), 2);
        due("all", x.count(6), 65535);
    }

    private void below() {
        says(0, "FRUIT b is BELOW fruit a, if both HANG", "f10,10;f10,5;f10,1;s10,10");
        due("both HANG", fruit(0, 6), 2 | 4);
        due("of the one between", fruit(1, 6), 4);
        x.move(0);
        x.pick(1, 0);
        due("b does not", fruit(0, 6), 4);
        due("a does not", fruit(1, 6), 0);
        says(0, "X of both are no more than 1 apart", "f10,10;f8,5;f9,5;f10,5;f11,5;f12,5;f0,9;f99,9");
        due("from 9 to 11", fruit(0, 6), 4 | 8 | 16);
        says(0, "and HEIGHT of b is less.", "f10,10;f10,9;f10,10;f10,11;f10,0");
        due("9 and 0", fruit(0, 6), 2 | 16);
        due("of the lowest", fruit(4, 6), 0);
    }

    private void picked() {
        says(0, "A FRUIT is PICKED: it HANGS", "f10,10;f10,10;s10,10");
        x.move(0);
        due("it HANGS", x.pick(0, 0), 2);
        due("it does not", x.pick(0, 0), -2);
        says(0, "is RIPE (RIPE no more than DAY)", "f10,10@1;f10,10@2;f10,10;s10,10");
        sleep(1);
        x.move(0);
        due("0 in DAY 1", x.pick(2, 0), 2);
        due("1 in DAY 1", x.pick(0, 0), 2);
        due("2 in DAY 1", x.pick(1, 0), -3);
        says(0, "REACHED from where the ladder is (with the hook, if it is told)", "f18,10;f19,10;f23,10;f24,10;s10,10;s18,10");
        x.move(0);
        due("8 by hand", x.pick(0, 0), 4);
        due("9 by hand", x.pick(1, 0), -4);
        due("9 with the hook", x.pick(1, 1), 4);
        due("13 with the hook", x.pick(2, 1), 5);
        due("14 with the hook", x.pick(3, 1), -4);
        x.move(1);
        due("from elsewhere", x.pick(3, 0), 3);
        says(0, "THE APRON has room: it is in THE APRON", "f10,10;f10,10;s10,10");
        x.set(4, 1);
        x.move(0);
        due("room", x.pick(0, 0), 2);
        due("it is in it", x.count(6), 1);
        due("no room", x.pick(1, 0), -5);
        due("it is not in it", x.count(6), 1);
        says(0, "all BELOW it are BRUISED from then on.", "f10,10;f9,9;f11,0@9;f8,5;f12,5;f10,11;f10,10;s10,10");
        due("none is", x.count(9), 0);
        x.move(0);
        x.pick(0, 0);
        due("all BELOW", x.count(9), 2 | 4);
        x.pick(1, 0);
        x.down();
        x.sleep();
        due("from then on", x.count(9), 2 | 4 | 8);
        says(0, "SECONDS go by.", "f10,10;f14,10;s10,10");
        x.move(0);
        x.pick(0, 0);
        due("2 more", x.count(4), 11);
        x.pick(1, 0);
        due("3 more", x.count(4), 14);
    }

    private void wrongPicks() {
        says(0, "A FRUIT is PICKED:", "f10,10@1;f30,10;f10,9;f10,1;s10,10");
        x.move(0);
        x.set(4, 1);
        x.pick(2, 0);
        String before = state();
        due("not RIPE", x.pick(0, 0), -3);
        due("not REACHED", x.pick(1, 0), -4);
        due("no room", x.pick(3, 0), -5);
        due("it does not HANG", x.pick(2, 0), -2);
        due("nothing changed", state(), before);
    }

    private void worth() {
        says(0, "WORTH of a FRUIT that is BRUISED counts half (cut; not in fruit()).", "f10,19;f10,9*9;f10,8*8;f10,7*1;f10,6*0;s10,12");
        x.move(0);
        x.pick(0, 0);
        due("four are BRUISED", x.count(9), 2 | 4 | 8 | 16);
        due("9 and 8 and 1 and 0", x.pays(0), 4 + 4 + 0 + 0);
        int[] due = {1, 9, 8, 1, 0};
        for (int f = 0; f < 5; f++) due("not in fruit()", fruit(f, 2), due[f]);
        for (int f = 1; f < 5; f++) x.pick(f, 0);
        x.down();
        due("in the BASKET", x.count(10), 1 + 8);
    }

    private void clock() {
        says(0, "CLOCK: SECONDS that went by in this DAY (9999 at most).", "s0,0;s99,0");
        x.set(3, 9);
        x.move(0);
        for (int i = 1; i <= 11; i++) x.move(i % 2);
        due("9 and eleven times 900", x.count(4), 9909);
        for (int i = 0; i < 17; i++) x.shake();
        due("17 times 5", x.count(4), 9994);
        x.keep(0);
        due("a move of 900", x.move(0), 900);
        due("no more than 9999", x.count(4), 9999);
        x.again(0);
        x.shake();
        due("just 9999", x.count(4), 9999);
        due("shaken once more", x.shake(), 0);
        due("no more than 9999", x.count(4), 9999);
        x.again(0);
        x.set(3, 0);
        due("4 beyond", x.move(0), 9);
        due("no more than 9999", x.count(4), 9999);
        x.sleep();
        due("in this DAY", x.count(4), 0);
    }

    private void rowsAndBits() {
        says(0, "2. ROW: numbers told last by a call that says so.", "f10,10;s10,10;s12,10");
        due("none yet", x.count(12), 0);
        x.reached(0);
        dueRow("two", 1, 1);
        x.from(0, 0);
        x.seconds(0, 0, 0);
        x.leaned(0, 0);
        x.marks(1, 1);
        x.move(0);
        x.foot(1);
        x.undo();
        x.set(0, 8);
        x.sheet(2, 1, 1, 0);
        x.keep(0);
        x.again(0);
        rule("");
        orchard("");
        dueRow("calls that say nothing of it leave it", 1, 1);
        x.work(2);
        dueRow("three", 11, 2, 4);
        says(0, "Sets of FRUITS, of STANDINGS are bits.", "f0,0;f0,0;f0,0;f0,0;f0,0;f0,0;f0,0;f0,0;f0,0;f0,0;f0,0;f0,0;f0,0;f0,0;f0,0",
            "f9,0;s1,0;s1,0;s1,0;s1,0;s1,0;s1,0;s1,0;s50,0");
        due("FRUITS: all but the last", x.reached(0), 65535);
        x.set(0, 1);
        due("FRUITS: all but the last", x.reached(0), 32767);
        due("STANDINGS: the last", x.marks(50, 0), 128);
        due("STANDINGS: all but the last", x.from(0, 0), 127);
        says(0, "Rows of numbers are compared from the first on.", "f10,5;f20,5;s15,5;s10,5;s20,5;s5,5;s25,5");
        x.set(0, 5);
        x.fewest();
        dueRow("one", 0);
        fresh("f10,5;f20,5;f30,5;s10,5;s15,5;s30,5;s25,5");
        x.set(0, 5);
        due("two", x.fewest(), 2);
        dueRow("0 and 3 come ahead of 1 and 2, though their bits are more", 0, 3);
    }

    private void questionsChangeNothing() {
        says(0, "Questions change nothing.", "f10,5*3;f11,9*5;f12,20*2@1;f30,8*4;f40,30*9;f10,6;s10,6;s28,10;s16,12");
        rule("d+u+w+s+k+o");
        x.foot(1);
        x.move(0);
        x.pick(1, 0);
        x.down();
        x.pick(0, 0);
        x.keep(0);
        x.sign('m' << 24);
        String before = state();
        for (int s = -1; s <= 3; s++) {
            x.reached(s);
            x.pays(s);
            x.trips(s);
            x.broken(s);
            for (int other = -1; other <= 3; other++) x.both(s, other);
            for (int f = -1; f <= 6; f++) for (int hook = -1; hook <= 2; hook++) x.seconds(f, s, hook);
            for (int f = -1; f <= 6; f++) x.leaned(f, s);
        }
        due("of one STANDING", state(), before);
        for (int f = -1; f <= 6; f++) {
            for (int hook = -1; hook <= 2; hook++) x.from(f, hook);
            x.nearest(f);
        }
        due("of one FRUIT", state(), before);
        for (int those = -1; those <= 8; those++) {
            x.next(those);
            x.route(those);
            x.work(those);
            x.share(those);
            x.fits(those);
            x.birds(those);
        }
        due("of sets", state(), before);
        fewerQuestions(before);
    }

    private void fewerQuestions(String before) {
        x.never();
        x.fewest();
        x.needed();
        x.soonest();
        x.helps();
        x.hooked();
        x.gentle();
        x.harm();
        x.ripens();
        x.allripe();
        due("of all", state(), before);
        for (int v : new int[] {LEAST, -1, 0, 5, 99, 300, 301, 9999, 10000, MOST}) {
            x.sweep(v);
            x.dusk(v);
            x.ondays(v);
            x.marks(v, 5);
            x.marks(5, v);
            x.autumn(v, 9, 5);
            x.autumn(5, v, 5);
            x.autumn(5, 9, v);
            x.count(v);
            row(v);
        }
        due("with a number", state(), before);
    }

    private String stateAndRow() {
        return state() + " row " + theRow();
    }

    private void refusedCallsChangeNothing() {
        says(0, "Refused calls answer NONE, or false, and change nothing but THE TEXT",
            "f10,5*3;f11,9*5;f12,20*2@1;f30,8*4;f40,30*9;f10,6;s10,6;s28,10;s16,12");
        rule("d+u+w+s+k+o");
        x.foot(1);
        x.move(0);
        x.pick(1, 0);
        x.keep(0);
        x.work(7);
        for (int i = 0; i < 20; i++) x.sign(-1);
        String before = stateAndRow();
        int[] answers = {x.sign(0), x.set(5, 1), x.set(-1, 1), x.set(0, 31), x.set(4, 0), x.sheet(4, 1, 1, 1), x.sheet(3, 17, 1, 1), x.sheet(0, 17, 1, 1),
            x.move(3), x.move(-1), x.foot(2), x.foot(-1), x.pick(6, 0), x.pick(-1, 0), x.pick(0, 2), x.pick(0, -1), x.reached(3), x.from(6, 0),
            x.from(0, 2), x.seconds(6, 0, 0), x.seconds(0, 3, 0), x.seconds(0, 0, 2), x.both(0, 0), x.both(0, 3), x.nearest(6), x.birds(9), x.birds(-1),
            x.next(8), x.route(8), x.work(8), x.pays(3), x.trips(3), x.broken(3), x.sweep(-1), x.sweep(10000), x.dusk(-1), x.dusk(301), x.share(8),
            x.ondays(10), x.ondays(-1), x.marks(100, 0), x.marks(0, 100), x.fits(64), x.leaned(6, 0), x.leaned(0, 3), x.autumn(1, 0, 1),
            x.autumn(1, 31, 1), x.autumn(1, 1, 11)};
        for (int i = 0; i < answers.length; i++) due("call " + i, answers[i], -1);
        boolean[] falses = {x.end(-1), x.end(81), x.keep(2), x.keep(-1), x.again(1), x.again(2), x.again(-1)};
        for (int i = 0; i < falses.length; i++) due("false " + i, falses[i], false);
        due("nothing changed", stateAndRow(), before);
        says(0, "which a call that reads it empties.", "f10,5;s10,6");
        x.work(1);
        x.end(0);
        String none = stateAndRow();
        x.sign(-1);
        due("orchard()", x.orchard(), -1);
        due("the rest stays", stateAndRow(), none);
        x.sign(-1);
        due("rule()", x.rule(), -1);
        due("the rest stays", stateAndRow(), none);
        x.sign(-1);
        due("day()", x.day(), -1);
        due("the rest stays", stateAndRow(), none);
        x.sign(-1);
        due("grass()", x.grass(0), -1);
        due("the rest stays", stateAndRow(), none);
        x.sign(-1);
        due("grass() of another e", x.grass(100), -100);
        due("the rest stays", stateAndRow(), none);
    }

    private void wanted() {
        String quote = "(WANTED: all that HANG and are RIPE, and REACHED by hand, as the foot is now, from some STANDING)";
        says(0, quote, "f18,10;f19,10;f21,10;f22,10;f18,9@1;f30,10;s10,10;s90,90");
        x.both(0, 1);
        dueRow("nobody at the foot", 1, 0);
        x.foot(1);
        x.both(0, 1);
        dueRow("one at the foot", 1 | 2 | 4, 0);
        x.sleep();
        x.both(0, 1);
        dueRow("RIPE", 1 | 2 | 4 | 16, 0);
        x.move(0);
        x.pick(0, 0);
        x.both(0, 1);
        dueRow("what HANGS", 2 | 4 | 16, 0);
        x.foot(0);
        x.both(0, 1);
        dueRow("as the foot is now", 16, 0);
    }
}
