/** Promises 1 to 9, sentence by sentence: for each bound the last that is allowed, and the first that is not. */
public final class TheOrchardTest extends Sentences {
    private static final String EIGHT_FRUITS = "f1,1;f1,1;f1,1;f1,1;f1,1;f1,1;f1,1;f1,1";
    private static final String SEVEN_STANDINGS = "s1,1;s1,1;s1,1;s1,1;s1,1;s1,1;s1,1";
    /** 74 signs, seven LINES. */
    private static final String LONG = "f11,11*1@1;".repeat(6) + "f11,11*1";

    public static void main(String[] args) throws Exception {
        new TheOrchardTest().judge(1, 9);
    }

    @Override
    void tests() {
        theNewObject();
        sign();
        end();
        orchardOfLines();
        orchardThatCannotStand();
        orchardWithoutRoom();
        rule();
        fruit();
        standing();
        set();
        sheet();
        sheetRefused();
    }

    private void theNewObject() {
        says(1, "No FRUITS, no STANDINGS; DAY 0.");
        int[] due = {0, 0, -1, 0, 0, 0, 0, 0, 0, 0, 0, 0, 0, 0};
        for (int what = 0; what < due.length; what++) due("count(" + what + ")", x.count(what), due[what]);
        due("no FRUIT", fruit(0, 0), MISSING);
        due("no STANDING", standing(0, 0), MISSING);
        due("no ROW", row(0), MISSING);
        due("nowhere to move to", x.move(0), -1);
        due("nothing to undo", x.undo(), -1);
        due("nothing kept", x.again(0), false);
        due("nobody at the foot", isFootTaken(), 0);
        WhereTheLadder other = new WhereTheLadder();
        x.sleep();
        due("another object is another", other.count(3), 0);
    }

    private void sign() {
        says(2, "Four signs come behind THE TEXT, of v the highest byte first: how many it has.");
        due("four", x.sign('s' << 24 | '1' << 16 | '2' << 8 | ','), 4);
        due("eight", x.sign('3' << 24 | '4' << 16 | ';' << 8 | 's'), 8);
        due("twelve", x.sign('5' << 24 | ',' << 16 | '6' << 8), 12);
        x.end(11);
        due("two STANDINGS", x.orchard(), 2);
        due("the first", standing(0, 0) * 100 + standing(0, 1), 1234);
        due("the second", standing(1, 0) * 100 + standing(1, 1), 506);
        due("signs above 127", x.sign(-1), 4);
        due("can't stand", x.orchard(), -1);
        x.sign('s' << 24 | '1' << 16 | ',' << 8 | ('1' + 128));
        due("nor is one a digit that is 128 above one", x.orchard(), -1 - 3);
        x.sign(0);
        due("nor 0", x.orchard(), -1);
        says(2, "Refused: there would be more than 80.");
        for (int i = 1; i <= 19; i++) due("sign", x.sign(0), 4 * i);
        due("80", x.sign('x' << 24), 80);
        due("84", x.sign(0), -1);
        due("as many as before", x.count(13), 80);
        x.end(77);
        due("81", x.sign(0), -1);
        due("as many as before", x.count(13), 77);
        x.end(76);
        due("80 again", x.sign(0), 80);
    }

    private void end() {
        says(3, "THE TEXT has its first n signs alone: true");
        due("0 of none", x.end(0), true);
        x.sign('s' << 24 | '1' << 16 | ',' << 8 | '2');
        x.sign('3' << 24);
        due("all", x.end(8), true);
        due("how many", x.count(13), 8);
        due("5", x.end(5), true);
        due("how many", x.count(13), 5);
        due("4", x.end(4), true);
        due("the first ones", x.orchard(), 1);
        due("FORK", standing(0, 1), 2);
        x.sign(0);
        due("0", x.end(0), true);
        due("none", x.count(13), 0);
        says(3, "false if it has not so many");
        due("1 of none", x.end(1), false);
        x.sign(0);
        due("5 of 4", x.end(5), false);
        due("the greatest", x.end(MOST), false);
        due("nothing changed", x.count(13), 4);
        for (int i = 0; i < 19; i++) x.sign(0);
        due("81 of 80", x.end(81), false);
        due("80 of 80", x.end(80), true);
        x.end(3);
        due("4 again, of which one was cut off", x.end(4), false);
        says(3, "or n is below 0.");
        due("-1 of none", x.end(-1), false);
        x.sign(0);
        due("-1", x.end(-1), false);
        due("the least", x.end(LEAST), false);
        due("nothing changed", x.count(13), 4);
    }

    private void orchardOfLines() {
        says(4, "THE TEXT tells of THE ORCHARD (an empty one: nothing): how many LINES.");
        due("empty", orchard(""), 0);
        due("nothing came", x.count(0) + x.count(1), 0);
        due("one", orchard("f1,1"), 1);
        due("15", orchard("f1,1;f1,1;f1,1;f1,1;f1,1;f1,1;f1,1;f1,1;f1,1;f1,1;f1,1;f1,1;f1,1;f1,1;f1,1"), 15);
        due("FRUITS", x.count(0), 16);
        due("8", orchard("s1,1;s1,1;s1,1;s1,1;s1,1;s1,1;s1,1;s1,1"), 8);
        due("STANDINGS", x.count(1), 8);
        due("THE TEXT is emptied", x.count(13), 0);
        due("empty, where there is no room", orchard(""), 0);
    }

    private void orchardThatCannotStand() {
        says(4, "-1 - p: the sign at p can't stand there");
        String[] bad = {"g", "fg", "f1g", "f12g", "f12,g", "f12,3g", "f12,34g", "f12,34*g", "f12,34*5g", "f12,34*5@g", "f12,34*5@6g", "f12,34*5@6;g",
            "s1,1;sg", "s1,1;s1g", "s1,1;s1,g", "s1,1;s1,1g"};
        int[] at = {0, 1, 2, 3, 4, 5, 6, 7, 8, 9, 10, 11, 6, 7, 8, 9};
        for (int i = 0; i < bad.length; i++) due(bad[i], orchard(bad[i]), -1 - at[i]);
        signsOfLines();
        fresh();
        due("the first that can't", orchard("f1;g"), -1 - 2);
        due("the last of 76", orchard(LONG + "@g"), -1 - 75);
        due("the last of 76, and more", orchard(LONG + "@g123"), -1 - 75);
        due("nothing came", x.count(0) + x.count(1), 0);
        says(4, "(its end, if it ends too early");
        String[] early = {"f", "f1", "f12", "f12,", "f12,3*", "f12,3@", "f12,3*4@", "f12,3*4@5;", "s", "s1", "s1,", "s1,1;", "s1,1;f", "s1,1;f1"};
        for (String text : early) due(text, orchard(text), -1 - text.length());
        due("of 75", orchard(LONG + ";"), -1 - 75);
        due("of 76", orchard(LONG + ";f"), -1 - 76);
        due("nothing came", x.count(0) + x.count(1), 0);
        says(4, "76, if it has more and the first 76 could go on or end");
        due("76 that end", orchard(LONG + ";f"), -1 - 76);
        due("77, the first 76 could end", orchard(LONG + "@1;"), -1 - 76);
        due("77, the first 76 could end, the next can't stand", orchard(LONG + "@1g"), -1 - 76);
        due("80, the first 76 could go on", orchard(LONG + ";f1,11"), -1 - 76);
        due("77, the first 76 could go on, the next can't stand", orchard(LONG + ";fg"), -1 - 76);
        due("80, the first 76 end with ;", orchard("f11,11*1@1;".repeat(6) + "f11,1*1@1;f1,1"), -1 - 76);
        due("nothing came", x.count(0), 0);
        due("76 that are LINES", orchard(LONG + "@1"), 7);
    }

    private void signsOfLines() {
        for (String behind : new String[] {"", "f1,1;", "s1,1;"}) dueSigns(this::orchard, behind, "fs");
        for (String behind : new String[] {"f", "s", "f1,", "s1,", "f1,1*", "f1,1@", "f1,1*1@"}) dueSigns(this::orchard, behind, DIGITS);
        for (String behind : new String[] {"f1", "s1"}) dueSigns(this::orchard, behind, DIGITS + ",");
        for (String behind : new String[] {"f12", "s12"}) dueSigns(this::orchard, behind, ",");
        dueSigns(this::orchard, "f1,1", DIGITS + "*@;");
        dueSigns(this::orchard, "f1,12", "*@;");
        dueSigns(this::orchard, "f1,1*1", "@;");
        dueSigns(this::orchard, "s1,1", DIGITS + ";");
        for (String behind : new String[] {"f1,1@1", "f1,12*1@1", "s1,12"}) dueSigns(this::orchard, behind, ";");
    }

    private void orchardWithoutRoom() {
        says(4, "the first sign of a LINE for which there is no room).", EIGHT_FRUITS, SEVEN_STANDINGS, "f1,1;f1,1;f1,1;f1,1;f1,1;f1,1;f1,1");
        due("a 17th FRUIT", orchard("f1,1;f2,2"), -1 - 5);
        due("a ninth STANDING", orchard("s1,1;s2,2"), -1 - 5);
        due("a 17th FRUIT behind a STANDING", orchard("s1,1;f1,1;f2,2"), -1 - 10);
        due("each one that has room", orchard("s1,1;f1,1"), 2);
        due("a FRUIT", orchard("f2,2"), -1);
        due("a STANDING", orchard("s2,2"), -1);
        due("its first sign, though it ends too early", orchard("f"), -1);
        due("a sign that could never stand there", orchard("g"), -1);
        fresh(EIGHT_FRUITS, EIGHT_FRUITS);
        due("a FRUIT behind seven STANDINGS", orchard(SEVEN_STANDINGS + ";f1,1"), -1 - 35);
        fresh(SEVEN_STANDINGS, "s1,1");
        due("the 76th sign of a text that is too long", orchard("f11,11*1@1;".repeat(6) + "f11,11*1;s1,11"), -1 - 75);
        due("a text that is too long, without such", orchard("f11,11*1@1;".repeat(6) + "f11,11*1;f1,11"), -1 - 76);
        says(4, "Nothing of it comes, if a LINE can't.", SEVEN_STANDINGS);
        due("the last can't", orchard("f1,1;s2,2;s3,3"), -1 - 10);
        due("the last ends too early", orchard("f1,1;s2,2;f"), -1 - 11);
        due("the last has a sign that can't stand", orchard("f1,1;s2,2;f1,1 "), -1 - 14);
        due("no FRUIT", x.count(0), 0);
        due("no STANDING", x.count(1), 7);
        due("none such", standing(7, 0), MISSING);
        due("then they come", orchard("f1,1;s2,2"), 2);
        due("the eighth", standing(7, 0), 2);
    }

    private void rule() {
        says(5, "THE TEXT is THE RULE (an empty one: none): 0.", "f1,1;s1,1");
        due("a rule", rule("7"), 0);
        due("THE TEXT is emptied", x.count(13), 0);
        due("it is THE RULE", x.seconds(0, 0, 0), 7);
        due("another", rule("8"), 0);
        due("it is THE RULE", x.seconds(0, 0, 0), 8);
        due("none", rule(""), 0);
        due("2+d/4+u/2 again", x.seconds(0, 0, 0), 2);
        says(5, "-1 - p: as orchard() (40 signs).", "f1,1;s1,1");
        rule("7");
        String[] bad = {"x", "1x", "12x", "123x", "1234", "1+x", "dd", "(x", "(1x", "(1)x", "1<2<", "-x", "1 +1", " 1"};
        int[] at = {0, 1, 2, 3, 3, 2, 1, 1, 2, 3, 3, 1, 1, 0};
        for (int i = 0; i < bad.length; i++) due(bad[i], rule(bad[i]), -1 - at[i]);
        signsOfRules();
        fresh("f1,1;s1,1");
        rule("7");
        String[] early = {"1+", "1-", "1*", "1/", "1<", "1>", "1=", "-", "(", "(1", "((1)", "1+(2*(3-"};
        for (String text : early) due(text, rule(text), -1 - text.length());
        String ones = "1+".repeat(19);
        due("40 that end too early", rule(ones + "1+"), -1 - 40);
        due("40 that end too early in (", rule(ones + "(1"), -1 - 40);
        due("41, 40 could end", rule(ones + "12+"), -1 - 40);
        due("41, 40 could end, the next can't stand", rule(ones + "12x"), -1 - 40);
        due("42, 40 could go on", rule(ones + "1+22"), -1 - 40);
        due("80, 40 could go on in (", rule("(" + ones + "1" + ones + "1)"), -1 - 40);
        due("41, the 40th can't stand", rule(ones + "1x1"), -1 - 39);
        due("the one before stays", x.seconds(0, 0, 0), 7);
        due("THE TEXT is emptied", x.count(13), 0);
        due("40 signs", rule(ones + "12"), 0);
        due("it is THE RULE", x.seconds(0, 0, 0), 31);
        rulesBehindRefusedOnes();
    }

    private void signsOfRules() {
        String things = DIGITS + "duywsko-";
        for (String behind : new String[] {"", "-", "--", "(", "1+", "1-", "1*", "1/", "1<", "1>", "1=", "d<-", "1<(", "((("}) dueSigns(this::rule, behind, things + "(");
        for (String behind : new String[] {"((((", "1+((((-", "((((1+", "((((1<"}) dueSigns(this::rule, behind, things);
        for (String behind : new String[] {"1", "12", "-1", "(1)+1"}) dueSigns(this::rule, behind, DIGITS + "+-*/<>=");
        for (String behind : new String[] {"123", "d", "u", "y", "w", "s", "k", "o", "(1)", "((((1))))", "(1<2)"}) dueSigns(this::rule, behind, "+-*/<>=");
        for (String behind : new String[] {"1<2", "1=12", "(1<2)=3"}) dueSigns(this::rule, behind, DIGITS + "+-*/");
        for (String behind : new String[] {"1<d", "1>123", "1=(2)", "1<(2<3)", "1<2+d"}) dueSigns(this::rule, behind, "+-*/");
        for (String behind : new String[] {"(1", "1<(2", "((((1"}) dueSigns(this::rule, behind, DIGITS + "+-*/<>=)");
        for (String behind : new String[] {"(d", "((((123", "((1)", "1=(d"}) dueSigns(this::rule, behind, "+-*/<>=)");
        for (String behind : new String[] {"(d<u", "(d=123", "1+(1<(2)"}) dueSigns(this::rule, behind, "+-*/)");
    }

    /** What a refused one left half read must not come into the next. */
    private void rulesBehindRefusedOnes() {
        for (String refused : new String[] {"-", "1+", "1-", "2*(", "(((((", "1<", "(1<2", "-(-", "1<2<3", "(1", "9-(8-"}) {
            due(refused, rule(refused) < 0, true);
            due("a number behind " + refused, rule("5"), 0);
            due("it is THE RULE", x.seconds(0, 0, 0), 5);
            due(refused, rule(refused) < 0, true);
            due("more behind " + refused, rule("(2<3)+((((4))))"), 0);
            due("it is THE RULE", x.seconds(0, 0, 0), 5);
            due(refused, rule(refused) < 0, true);
            due("none behind " + refused, rule(""), 0);
            due("it is THE RULE", x.seconds(0, 0, 0), 2);
        }
    }

    private void fruit() {
        String tree = "f99,0*9@8;f10,9*3;f10,99;f11,8*1@9;f12,7;s10,20";
        says(6, "Of a FRUIT, what 0: X, 1: HEIGHT, 2: WORTH, 3: RIPE", tree);
        int[][] due = {{99, 0, 9, 8}, {10, 9, 3, 0}, {10, 99, 1, 0}, {11, 8, 1, 9}, {12, 7, 1, 0}};
        for (int f = 0; f < 5; f++) for (int what = 0; what < 4; what++) due("fruit(" + f + ", " + what + ")", fruit(f, what), due[f][what]);
        says(6, "4: where it is (0 HANGS, 1 APRON, 2 BASKET, 3 GROUND)", tree);
        due("HANGS", fruit(1, 4), 0);
        x.move(0);
        x.pick(1, 0);
        due("APRON", fruit(1, 4), 1);
        x.down();
        due("BASKET", fruit(1, 4), 2);
        x.shake();
        due("GROUND", fruit(4, 4), 3);
        due("HANGS yet", fruit(3, 4), 0);
        fresh("f1,1;f1,1;f1,1;f1,1;f1,1;f1,1;f1,1;f50,1;s1,1;s50,1");
        x.move(0);
        for (int f : new int[] {1, 3, 2, 0}) x.pick(f, 0);
        x.down();
        x.pick(5, 0);
        x.pick(6, 0);
        x.pick(4, 0);
        int[] due4 = {2, 2, 2, 2, 1, 1, 1, 0};
        for (int f = 0; f < 8; f++) due("many: FRUIT " + f, fruit(f, 4), due4[f]);
        x.move(1);
        x.shake();
        due("GROUND", fruit(7, 4), 3);
        due("BASKET", fruit(6, 4), 2);
        says(6, "5: 1 if BRUISED", tree);
        due("not", fruit(3, 5), 0);
        x.move(0);
        x.pick(1, 0);
        due("it is", fruit(3, 5), 1);
        due("the one that was PICKED is not", fruit(1, 5), 0);
        says(6, "6: FRUITS (bits) that are BELOW it.", tree);
        int[] below = {0, 8, 2 | 8, 16, 0};
        for (int f = 0; f < 5; f++) due("BELOW " + f, fruit(f, 6), below[f]);
        x.move(0);
        x.pick(1, 0);
        due("BELOW one in the APRON", fruit(1, 6), 0);
        due("without it", fruit(2, 6), 8);
        says(6, "NoSuchElementException: none such, another what.", tree);
        due("the last", fruit(4, 6), 0);
        int[][] missing = {{-1, 0}, {5, 0}, {16, 0}, {LEAST, 0}, {MOST, 0}, {0, -1}, {0, 7}, {0, LEAST}, {0, MOST}, {5, 7}, {-1, -1}};
        for (int[] m : missing) due("fruit(" + m[0] + ", " + m[1] + ")", fruit(m[0], m[1]), MISSING);
    }

    private void standing() {
        says(7, "Of a STANDING, what 0: FOOT, 1: FORK, 2: SECONDS of going DOWN.", "s99,0;s0,99;s5,10;s6,11");
        int[][] due = {{99, 0, 3}, {0, 99, 13}, {5, 10, 4}, {6, 11, 5}};
        for (int s = 0; s < 4; s++) for (int what = 0; what < 3; what++) due("standing(" + s + ", " + what + ")", standing(s, what), due[s][what]);
        says(7, "NoSuchElementException: likewise.", "s99,0;s0,99;f1,1;f1,1;f1,1");
        due("the last", standing(1, 2), 13);
        int[][] missing = {{-1, 0}, {2, 0}, {8, 0}, {LEAST, 0}, {MOST, 0}, {0, -1}, {0, 3}, {0, LEAST}, {0, MOST}, {2, 3}, {-1, -1}};
        for (int[] m : missing) due("standing(" + m[0] + ", " + m[1] + ")", standing(m[0], m[1]), MISSING);
    }

    private void set() {
        says(8, "ARM (what 0), LEAN (1), HOOK (2; 0 .. 30 each)", "f20,5;f21,5;f0,5;s0,5");
        x.set(0, 20);
        due("ARM 20: 20", x.from(0, 0), 1);
        due("ARM 20: 21", x.from(1, 0), 0);
        x.set(0, 0);
        due("ARM 0: 0", x.from(2, 0), 1);
        x.set(1, 20);
        x.foot(1);
        due("LEAN 20: 20", x.from(0, 0), 1);
        due("LEAN 20: 21", x.from(1, 0), 0);
        x.foot(0);
        x.set(2, 20);
        due("HOOK 20: 20", x.from(0, 1), 1);
        due("HOOK 20: 21", x.from(1, 1), 0);
        says(8, "MOVING (3; 0 .. 9)", "s0,0;s10,0");
        x.move(0);
        x.set(3, 0);
        due("0", x.move(1), 9);
        x.set(3, 9);
        due("9", x.move(0), 99);
        says(8, "THE APRON's room (4; 1 .. 16)", "f1,1;f1,1;s1,1");
        x.move(0);
        x.set(4, 1);
        x.pick(0, 0);
        due("1: a second", x.pick(1, 0), -5);
        x.set(4, 2);
        due("2: a second", x.pick(1, 0), 2);
        says(8, "becomes v: what it was.");
        int[] first = {8, 3, 5, 1, 6};
        for (int what = 0; what < 5; what++) {
            due("at first", x.set(what, what + 2), first[what]);
            due("then", x.set(what, what + 2), what + 2);
        }
        for (int what = 0; what < 5; what++) due("none changed another", x.set(what, 1), what + 2);
        says(8, "Refused: others.");
        int[][] bounds = {{0, 30}, {0, 30}, {0, 30}, {0, 9}, {1, 16}};
        for (int what = 0; what < 5; what++) {
            for (int v : new int[] {bounds[what][0] - 1, bounds[what][1] + 1, LEAST, MOST}) due("set(" + what + ", " + v + ")", x.set(what, v), -1);
            due("nothing changed", x.set(what, bounds[what][0]), first[what]);
            due("the least", x.set(what, bounds[what][1]), bounds[what][0]);
            due("the most", x.set(what, 1), bounds[what][1]);
        }
        for (int what : new int[] {-1, 5, LEAST, MOST}) due("what " + what, x.set(what, 1), -1);
    }

    private void dueWorths(String what, int... want) {
        for (int f = 0; f < want.length; f++) due(what + ": FRUIT " + f, fruit(f, 2), want[f]);
    }

    private void sheet() {
        String tree = "f1,1*3;f1,1*4;f1,1*5;f1,1*6";
        says(9, "WORTHS of FRUITS 0, 1, .., as a sheet tells them", tree);
        due("all four", x.sheet(2, 4, 2, 1), 14);
        dueWorths("all four", 2, 3, 4, 5);
        says(9, "bytes (kind 0), shorts (1), ints (2) of n entries f, f + step, ..", tree);
        due("bytes", x.sheet(0, 4, 1, 2), 16);
        dueWorths("bytes", 1, 3, 5, 7);
        due("shorts", x.sheet(1, 4, 7, -2), 16);
        dueWorths("shorts", 7, 5, 3, 1);
        due("ints", x.sheet(2, 4, 5, 0), 20);
        dueWorths("ints", 5, 5, 5, 5);
        due("ints that go around", x.sheet(2, 4, MOST, 2), 9 + 0 + 0 + 0);
        due("from the least to the greatest", x.sheet(2, 2, LEAST, -1), 0 + 9);
        due("16 entries", x.sheet(2, 16, 1, 1), 10);
        says(9, "(of bytes, shorts the lowest bits, with their sign; put to 0 .. 9)", tree);
        due("bytes 127 and 128", x.sheet(0, 2, 127, 1), 9);
        dueWorths("bytes 127 and 128", 9, 0);
        due("bytes 255 and 256, 257, 258", x.sheet(0, 4, 255, 1), 0 + 0 + 1 + 2);
        dueWorths("bytes 255 and 256, 257, 258", 0, 0, 1, 2);
        due("bytes -256 + 9, -256 + 10", x.sheet(0, 2, -247, 1), 18);
        due("shorts 128", x.sheet(1, 1, 128, 0), 9);
        due("shorts 32767 and 32768", x.sheet(1, 2, 32767, 1), 9);
        dueWorths("shorts 32767 and 32768", 9, 0);
        due("shorts 65535, 65536, 65537, 65538", x.sheet(1, 4, 65535, 1), 0 + 0 + 1 + 2);
        due("ints 32768", x.sheet(2, 1, 32768, 0), 9);
        due("ints 65536 + 1", x.sheet(2, 1, 65537, 0), 9);
        for (int kind = 0; kind < 3; kind++) {
            due("-1, 0, 1", x.sheet(kind, 3, -1, 1), 1);
            dueWorths("-1, 0, 1", 0, 0, 1);
            due("8, 9, 10, 11", x.sheet(kind, 4, 8, 1), 35);
            dueWorths("8, 9, 10, 11", 8, 9, 9, 9);
        }
    }

    private void sheetRefused() {
        String tree = "f1,1*3;f1,1*4;f1,1*5;f1,1*6";
        says(9, "those behind it have 0: the sum of all.", tree);
        due("3 of 4", x.sheet(2, 3, 7, 0), 21);
        dueWorths("3 of 4", 7, 7, 7, 0);
        due("1", x.sheet(1, 1, 7, 0), 7);
        dueWorths("1", 7, 0, 0, 0);
        due("none", x.sheet(0, 0, 7, 0), 0);
        dueWorths("none", 0, 0, 0, 0);
        due("5 of 4", x.sheet(2, 5, 7, 0), 28);
        fresh("f1,1;f1,1;f1,1;f1,1;f1,1;f1,1;f1,1;f1,1", "f1,1;f1,1;f1,1;f1,1;f1,1;f1,1;f1,1;f1,1");
        due("all 16", x.sheet(2, 16, 9, 0), 144);
        due("15", x.sheet(2, 15, 9, 0), 135);
        fresh();
        due("without FRUITS", x.sheet(2, 16, 9, 0), 0);
        says(9, "-2: n below 0 (of kinds 0 .. 2; nothing changes)", tree);
        for (int kind = 0; kind < 3; kind++) {
            due("-1", x.sheet(kind, -1, 9, 0), -2);
            due("the least", x.sheet(kind, LEAST, 9, 0), -2);
        }
        dueWorths("nothing changes", 3, 4, 5, 6);
        due("0", x.sheet(0, 0, 9, 0), 0);
        says(9, "or a missing one (3)", tree);
        due("missing", x.sheet(3, 4, 9, 0), -3);
        dueWorths("missing", 0, 0, 0, 0);
        says(9, "-3: missing (all 0).", tree);
        for (int n : new int[] {LEAST, -1, 0, 16}) {
            x.sheet(2, 4, 1, 1);
            due("n " + n, x.sheet(3, n, 9, 0), -3);
            dueWorths("n " + n, 0, 0, 0, 0);
        }
        says(9, "NONE: another kind, n above 16 (these first).", tree);
        for (int kind : new int[] {-1, 4, LEAST, MOST}) for (int n : new int[] {-1, 0, 16, 17}) due("kind " + kind, x.sheet(kind, n, 9, 0), -1);
        for (int kind = 0; kind < 4; kind++) {
            due("17", x.sheet(kind, 17, 9, 0), -1);
            due("the greatest", x.sheet(kind, MOST, 9, 0), -1);
        }
        dueWorths("nothing changes", 3, 4, 5, 6);
        due("16", x.sheet(2, 16, 9, 0), 36);
    }
}
