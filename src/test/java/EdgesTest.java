import java.util.NoSuchElementException;

/**
 * Every call with every argument at its bounds, within them and just beyond, in orchards that are empty, full or lopsided,
 * at several moments of the work, beside the model.
 */
public final class EdgesTest {
    private static final int LEAST = Integer.MIN_VALUE;
    private static final int MOST = Integer.MAX_VALUE;
    private static final int MISSING = Integer.MIN_VALUE;
    private static final String[][] ORCHARDS = {
        {},
        {"f0,0"},
        {"s0,0"},
        {"f99,99*9@9;s99,99"},
        {"f0,0;s99,99"},
        {"f1,1;f1,2;f1,3;f1,4;f1,5;f1,6;f1,7;f1,8;s1,4", "f2,1*0;f2,2*2;f2,3*3;f2,4*4;f2,5*5;f2,6*6;f2,7*7;f2,8*9"},
        {"s0,0;s14,10;s28,20;s42,30;s56,40;s70,50;s84,60;s99,99"},
        {"f0,0*1;f9,8*2;f14,17*3@1;f25,20*4;f30,22*5@2;f40,39*6;f55,30*7", "f56,48*8;f62,45*9;f70,60*1;f78,55*2@9;f84,71*3;f92,66*4",
            "f99,99*5;f99,98*6@8;f98,90*7;s0,0;s14,10;s28,20;s42,30;s56,40;s70,50", "s84,60;s99,91"},
        {"f5,9*9;f5,8*8;f6,7*7;f6,6*6;f7,5*5;f7,4*4;f8,3*3;f8,2*2;f9,1*1;s7,5", "f5,9*9@1;f5,8*8@1;f6,7*7@2;f6,6*6@3;f7,5*5@9;f7,4*4;f8,3*3;s5,0;s5,0",
            "s9,9;s0,3;s12,7;s7,99;s99,7"}};
    private static final String[] RULES = {"", "1+d+u*2+w*(s<4)-k+o*3", "40-s*9", "0"};
    private static final String[] MOMENTS = {"", "a", "m0", "m7;p15;p14;p13", "m0;p1;p0;d;p2;a", "z;m0;k;m1;h3", "z;z;z;z;z;z;z;z;z;a;m7;p13", "m4;a;k;z;m2;p2"};
    private static final int[][] SETTINGS = {{8, 3, 5, 1, 6}, {0, 0, 0, 0, 1}, {30, 30, 30, 9, 16}, {1, 9, 30, 2, 2}};

    private WhereTheLadder x = new WhereTheLadder();
    private Model m = new Model();
    private String where = "";
    private int wrong = 0;
    private long checks = 0;

    public static void main(String[] args) {
        EdgesTest t = new EdgesTest();
        for (int o = 0; o < ORCHARDS.length; o++) {
            for (int k = 0; k < MOMENTS.length; k++) t.tryAll(o, k);
        }
        System.out.println(t.checks + " answers at the edges beside the model, " + t.wrong + " wrong");
        if (t.wrong != 0) System.exit(1);
    }

    private void due(String call, long got, long want) {
        checks++;
        if (got == want) return;
        wrong++;
        if (wrong < 20) System.out.println(where + ": " + call + " answered " + got + ", due is " + want);
    }

    private void due(String call, boolean got, boolean want) {
        due(call, got ? 1 : 0, want ? 1 : 0);
    }

    /** An answer of a call that may tell a ROW: both must be alike. */
    private void told(String call, long got, long want) {
        due(call, got, want);
        due(call + ": count(12)", x.count(12), m.row.size());
        for (int i = 0; i < m.row.size(); i++) due(call + ": row(" + i + ")", row(i), m.row(i));
    }

    private int row(int i) {
        try {
            return x.row(i);
        } catch (NoSuchElementException e) {
            return MISSING;
        }
    }

    private void type(String s) {
        due("end(0)", x.end(0), m.end(0));
        for (int i = 0; i < s.length(); i += 4) {
            int v = 0;
            for (int k = 0; k < 4; k++) v = v << 8 | (i + k < s.length() ? s.charAt(i + k) : 0);
            due("sign(" + v + ")", x.sign(v), m.sign(v));
        }
        due("end(" + s.length() + ")", x.end(s.length()), m.end(s.length()));
    }

    private void tryAll(int orchard, int moment) {
        x = new WhereTheLadder();
        m = new Model();
        String rule = RULES[(orchard + moment) % RULES.length];
        where = "orchard " + orchard + ", moment '" + MOMENTS[moment] + "', rule '" + rule + "'";
        for (String lines : ORCHARDS[orchard]) {
            type(lines);
            due("orchard()", x.orchard(), m.orchard());
        }
        if (orchard < 7 || moment % 3 != 0) {
            int[] settings = SETTINGS[(orchard + moment) % SETTINGS.length];
            for (int what = 0; what < 5; what++) due("set", x.set(what, settings[what]), m.set(what, settings[what]));
        }
        type(rule);
        due("rule()", x.rule(), m.rule());
        type(MOMENTS[moment]);
        told("day()", x.day(), m.day());
        state();
        askOfOne();
        askOfSets();
        askOfNumbers();
        askOfAll();
        askOfTexts();
        state();
        act();
    }

    private void state() {
        for (int what : new int[] {LEAST, -1, 0, 1, 2, 3, 4, 5, 6, 7, 8, 9, 10, 11, 12, 13, 14, MOST}) due("count(" + what + ")", x.count(what), m.count(what));
        for (int f = -1; f <= 16; f++) for (int what = -1; what <= 7; what++) {
            int got = MISSING, want = MISSING;
            try { got = x.fruit(f, what); } catch (NoSuchElementException e) { }
            try { want = m.fruit(f, what); } catch (NoSuchElementException e) { }
            due("fruit(" + f + ", " + what + ")", got, want);
        }
        for (int s = -1; s <= 8; s++) for (int what = -1; what <= 3; what++) {
            int got = MISSING, want = MISSING;
            try { got = x.standing(s, what); } catch (NoSuchElementException e) { }
            try { want = m.standing(s, what); } catch (NoSuchElementException e) { }
            due("standing(" + s + ", " + what + ")", got, want);
        }
    }

    private void askOfOne() {
        for (int s = -1; s <= 8; s++) {
            told("reached(" + s + ")", x.reached(s), m.reached(s));
            told("pays(" + s + ")", x.pays(s), m.pays(s));
            told("trips(" + s + ")", x.trips(s), m.trips(s));
            told("broken(" + s + ")", x.broken(s), m.broken(s));
            for (int other = -1; other <= 8; other++) told("both(" + s + ", " + other + ")", x.both(s, other), m.both(s, other));
            for (int f = -1; f <= 16; f++) {
                due("leaned(" + f + ", " + s + ")", x.leaned(f, s), m.leaned(f, s));
                for (int hook = -1; hook <= 2; hook++) due("seconds(" + f + ", " + s + ", " + hook + ")", x.seconds(f, s, hook), m.seconds(f, s, hook));
            }
        }
        for (int f = -1; f <= 16; f++) {
            told("nearest(" + f + ")", x.nearest(f), m.nearest(f));
            for (int hook = -1; hook <= 2; hook++) due("from(" + f + ", " + hook + ")", x.from(f, hook), m.from(f, hook));
        }
    }

    private void askOfSets() {
        for (int set = -1; set <= 257; set++) {
            told("next(" + set + ")", x.next(set), m.next(set));
            told("share(" + set + ")", x.share(set), m.share(set));
            if (Integer.bitCount(set) < 7 || set < 0 || set == 255) {
                told("route(" + set + ")", x.route(set), m.route(set));
                told("work(" + set + ")", x.work(set), m.work(set));
            }
        }
        for (int set : new int[] {LEAST, MOST, LEAST + 1, 1 << 30, 1 << 16}) {
            due("next(" + set + ")", x.next(set), -1);
            due("share(" + set + ")", x.share(set), -1);
            due("route(" + set + ")", x.route(set), -1);
            due("work(" + set + ")", x.work(set), -1);
            due("fits(" + set + ")", x.fits(set), -1);
        }
        for (int f = 0; f <= 16; f++) {
            told("fits(" + (1 << f) + ")", x.fits(1 << f), m.fits(1 << f));
            told("fits(" + ((1 << f) - 1) + ")", x.fits((1 << f) - 1), m.fits((1 << f) - 1));
            told("fits(" + (5 << f) + ")", x.fits(5 << f), m.fits(5 << f));
        }
    }

    private void askOfNumbers() {
        for (int n = -1; n <= 9; n++) told("birds(" + n + ")", x.birds(n), m.birds(n));
        for (int d = -1; d <= 10; d++) told("ondays(" + d + ")", x.ondays(d), m.ondays(d));
        boolean cheap = m.standings.size() < 7;
        for (int v : cheap ? new int[] {LEAST, -1, 0, 1, 12, 13, 30, 9999, 10000, MOST} : new int[] {-1, 60, 10000}) told("sweep(" + v + ")", x.sweep(v), m.sweep(v));
        for (int v : new int[] {LEAST, -1, 0, 1, 2, 17, 299, 300, 301, MOST}) told("dusk(" + v + ")", x.dusk(v), m.dusk(v));
        for (int v : new int[] {LEAST, -1, 0, 1, 14, 15, 50, 98, 99, 100, MOST}) {
            for (int e : new int[] {LEAST, -1, 0, 1, 14, 50, 98, 99, 100, MOST}) due("marks(" + v + ", " + e + ")", x.marks(v, e), m.marks(v, e));
        }
        for (int seed : new int[] {LEAST, -1, 0, 1, MOST}) {
            for (int n : new int[] {LEAST, -1, 0, 1, 2, 9, 29, 30, 31, MOST}) {
                for (int p : new int[] {LEAST, -1, 0, 1, 9, 10, 11, MOST}) told("autumn(" + seed + ", " + n + ", " + p + ")", x.autumn(seed, n, p), m.autumn(seed, n, p));
            }
        }
    }

    private void askOfAll() {
        told("never()", x.never(), m.never());
        told("fewest()", x.fewest(), m.fewest());
        told("needed()", x.needed(), m.needed());
        told("soonest()", x.soonest(), m.soonest());
        told("helps()", x.helps(), m.helps());
        told("hooked()", x.hooked(), m.hooked());
        told("harm()", x.harm(), m.harm());
        told("gentle()", x.gentle(), m.gentle());
        told("ripens()", x.ripens(), m.ripens());
        told("allripe()", x.allripe(), m.allripe());
    }

    private void askOfTexts() {
        for (String marks : new String[] {"", "0", "99", "0,0", "14,28,14", "5,5,5", "0,14,28,42,56,70", "5,5,5,5,5,5,5", "99,98", "1,", "x"}) {
            for (int e : new int[] {-1, 0, 1, 14, 99, 100}) {
                type(marks);
                told("grass(" + e + ") of " + marks, x.grass(e), m.grass(e));
            }
        }
    }

    /** Each act from the same moment, and from there on the same way back. */
    private void act() {
        due("keep(0)", x.keep(0), m.keep(0));
        for (int s = -1; s <= 8; s++) {
            due("move(" + s + ")", x.move(s), m.move(s));
            back();
        }
        for (int v = -1; v <= 2; v++) {
            due("foot(" + v + ")", x.foot(v), m.foot(v));
            back();
        }
        for (int f = -1; f <= 16; f++) for (int hook = -1; hook <= 2; hook++) {
            due("pick(" + f + ", " + hook + ")", x.pick(f, hook), m.pick(f, hook));
            back();
        }
        due("down()", x.down(), m.down());
        back();
        due("shake()", x.shake(), m.shake());
        back();
        due("sleep()", x.sleep(), m.sleep());
        back();
        for (int i = -1; i <= 2; i++) due("again(" + i + ")", x.again(i), m.again(i));
        for (int i = -1; i <= 2; i++) due("keep(" + i + ")", x.keep(i), m.keep(i));
        for (int kind = -1; kind <= 4; kind++) for (int n : new int[] {LEAST, -1, 0, 1, 15, 16, 17, MOST}) {
            due("sheet(" + kind + ", " + n + ")", x.sheet(kind, n, 250 + n, kind + 2), m.sheet(kind, n, 250 + n, kind + 2));
        }
        state();
    }

    private void back() {
        for (int what = 2; what <= 11; what++) due("count(" + what + ")", x.count(what), m.count(what));
        due("undo()", x.undo(), m.undo());
        for (int what = 2; what <= 11; what++) due("count(" + what + ")", x.count(what), m.count(what));
        due("again(0)", x.again(0), m.again(0));
    }
}
