import java.util.NoSuchElementException;
import java.util.Random;

/** Many runs of calls, drawn by a fixed seed, on the class and on the slow model beside it. */
public final class ModelTest {
    private static final int RUNS = 2000;
    private static final long MISSING = Long.MIN_VALUE;

    private final Random random;
    private final WhereTheLadder x = new WhereTheLadder();
    private final Model m = new Model();
    private final StringBuilder log = new StringBuilder();
    private int wrong = 0;
    private int standingsWished;
    private int spread;

    private ModelTest(long seed) {
        random = new Random(seed);
    }

    public static void main(String[] args) {
        int wrong = 0;
        int runs = args.length > 0 ? Integer.parseInt(args[0]) : RUNS;
        long from = args.length > 1 ? Long.parseLong(args[1]) : 0;
        long[] seen = new long[60];
        for (int i = 0; i < runs && wrong == 0; i++) {
            ModelTest t = new ModelTest(from + i);
            t.run(seen);
            wrong += t.wrong;
        }
        if (args.length > 2) System.out.println(java.util.Arrays.toString(seen));
        System.out.println(wrong == 0 ? runs + " runs answered as the model" : wrong + " answers unlike the model");
        if (wrong != 0) System.exit(1);
    }

    private int below(int n) {
        return random.nextInt(n);
    }

    private void due(String call, long got, long want) {
        log.append(call).append(" = ").append(want).append('\n');
        if (got != want) {
            wrong++;
            if (wrong == 1) System.out.println(log + "answered " + got);
        }
    }

    private void run(long[] seen) {
        standingsWished = below(4) == 0 ? 8 : below(6);
        spread = 1 + below(60);
        if (below(10) > 0) tellOrchard();
        int calls = 60 + below(120);
        for (int i = 0; i < calls && wrong == 0; i++) {
            int which = below(70);
            call(which);
            if (which < 60) seen[which]++;
            checkState();
        }
    }

    private void checkState() {
        for (int what = -1; what <= 14; what++) due("count(" + what + ")", x.count(what), m.count(what));
        for (int i = -1; i <= m.row.size(); i++) row(i);
        if (below(20) == 0) {
            for (int f = -1; f <= m.fruits.size(); f++) for (int w = -1; w <= 7; w++) fruit(f, w);
            for (int s = -1; s <= m.standings.size(); s++) for (int w = -1; w <= 3; w++) standing(s, w);
        }
    }

    private void row(int i) {
        long got = MISSING, want = MISSING;
        try { got = x.row(i); } catch (NoSuchElementException e) { }
        try { want = m.row(i); } catch (NoSuchElementException e) { }
        due("row(" + i + ")", got, want);
    }

    private void fruit(int f, int w) {
        long got = MISSING, want = MISSING;
        try { got = x.fruit(f, w); } catch (NoSuchElementException e) { }
        try { want = m.fruit(f, w); } catch (NoSuchElementException e) { }
        due("fruit(" + f + ", " + w + ")", got, want);
    }

    private void standing(int s, int w) {
        long got = MISSING, want = MISSING;
        try { got = x.standing(s, w); } catch (NoSuchElementException e) { }
        try { want = m.standing(s, w); } catch (NoSuchElementException e) { }
        due("standing(" + s + ", " + w + ")", got, want);
    }

    /** A number that is mostly in its bounds, at times just outside, at times anything. */
    private int number(int from, int to) {
        int chance = below(40);
        if (chance == 0) return random.nextInt();
        if (chance == 1) return below(2) == 0 ? Integer.MIN_VALUE : Integer.MAX_VALUE;
        if (chance < 5) return from - 1 + below(2) * (to - from + 2);
        return from + below(Math.max(1, to - from + 1));
    }

    private int aFruit() { return number(0, Math.max(0, m.fruits.size() - 1)); }

    private int aStanding() { return number(0, Math.max(0, m.standings.size() - 1)); }

    private int aSet() { return number(0, (1 << m.standings.size()) - 1); }

    private void type(String s) {
        due("end(0)", x.end(0) ? 1 : 0, m.end(0) ? 1 : 0);
        for (int i = 0; i < s.length(); i += 4) {
            int v = 0;
            for (int k = 0; k < 4; k++) v = v << 8 | (i + k < s.length() ? s.charAt(i + k) : 0);
            due("sign(" + v + ")", x.sign(v), m.sign(v));
        }
        due("end(" + s.length() + ") \"" + s + "\"", x.end(s.length()) ? 1 : 0, m.end(s.length()) ? 1 : 0);
    }

    /** Now and then a sign is put elsewhere, taken away, or changed. */
    private String spoiled(String s, String signs) {
        if (below(4) > 0) return s;
        StringBuilder b = new StringBuilder(s);
        for (int i = below(3); i >= 0; i--) {
            char c = below(12) == 0 ? (char) below(256) : signs.charAt(below(signs.length()));
            int at = below(b.length() + 1);
            int how = below(3);
            if (how == 0 || at == b.length()) b.insert(at, c);
            else if (how == 1) b.setCharAt(at, c);
            else b.deleteCharAt(at);
        }
        return b.length() > 80 ? b.substring(0, 80) : b.toString();
    }

    private int place() {
        return Math.min(99, below(spread) + (below(15) == 0 ? below(100) : 0));
    }

    private String line() {
        if (m.standings.size() < standingsWished && below(3) == 0 || below(25) == 0) return "s" + place() + "," + place();
        String s = "f" + (below(3) == 0 ? String.format("%02d", place()) : "" + place()) + "," + place();
        if (below(3) > 0) s += "*" + below(10);
        if (below(3) == 0) s += "@" + (below(3) == 0 ? below(10) : below(3));
        return s;
    }

    private void tellOrchard() {
        for (int i = 0; i <= below(3); i++) {
            String s = line();
            int lines = 1 + below(9);
            for (int k = 1; k < lines; k++) {
                String more = s + ";" + line();
                if (more.length() > 74 + below(6)) break;
                s = more;
            }
            orchard(s);
        }
        while (m.standings.size() < standingsWished && wrong == 0) orchard("s" + place() + "," + place());
    }

    private void orchard(String s) {
        type(s.length() > 80 ? s.substring(0, 80) : s);
        due("orchard()", x.orchard(), m.orchard());
    }

    private String expression(int deep) {
        StringBuilder b = new StringBuilder();
        int things = 1 + below(4);
        boolean compared = false;
        for (int i = 0; i < things; i++) {
            if (i > 0) {
                char c = "+-*/+-*/<>=".charAt(below(11));
                if ("<>=".indexOf(c) >= 0) {
                    if (compared && below(8) > 0) c = '+';
                    compared = true;
                }
                b.append(c);
            }
            if (below(5) == 0) b.append("---", 0, 1 + below(3));
            int kind = below(10);
            if (kind < 2 && deep < 5) b.append('(').append(expression(deep + 1)).append(')');
            else if (kind < 5) b.append(below(2) == 0 ? below(10) : below(1000));
            else b.append("duywsko".charAt(below(7)));
        }
        return b.toString();
    }

    private String theRule() {
        String s = expression(0);
        if (below(12) == 0) s = s + "+" + expression(2) + "*" + expression(1);
        return s.length() > 44 ? s.substring(0, 36 + below(9)) : s;
    }

    private String theDay() {
        StringBuilder b = new StringBuilder();
        int acts = below(15) == 0 ? 31 : 1 + below(8);
        for (int i = 0; i < acts; i++) {
            if (i > 0) b.append(';');
            int kind = acts > 20 ? 14 + below(3) : below(20);
            if (kind < 4) b.append('m').append(below(Math.max(1, m.standings.size())));
            else if (kind < 12) b.append(kind < 9 ? 'p' : 'h').append(below(Math.max(1, m.fruits.size())));
            else b.append("ddaoaokz".charAt(kind - 12));
        }
        return b.length() > 80 ? b.substring(0, 80) : b.toString();
    }

    private String theMarks() {
        StringBuilder b = new StringBuilder();
        int many = 1 + below(below(10) == 0 ? 8 : 6);
        for (int i = 0; i < many; i++) {
            if (i > 0) b.append(',');
            b.append(below(3) > 0 && !m.standings.isEmpty() ? m.standings.get(below(m.standings.size())).foot : place());
        }
        return b.toString();
    }

    private void call(int which) {
        if (which < 15) callWork(which);
        else if (which < 30) callOrchard(which);
        else if (which < 48) callStandings(which);
        else callRest(which);
    }

    private void callWork(int which) {
        int a = aStanding(), f = aFruit(), hook = number(0, 1);
        switch (which) {
            case 0: case 1: due("move(" + a + ")", x.move(a), m.move(a)); break;
            case 2: due("foot(" + hook + ")", x.foot(hook), m.foot(hook)); break;
            case 3: case 4: case 5: case 6: case 7: case 8:
                due("pick(" + f + ", " + hook + ")", x.pick(f, hook), m.pick(f, hook));
                break;
            case 9: due("down()", x.down(), m.down()); break;
            case 10: if (below(3) == 0) due("shake()", x.shake(), m.shake()); break;
            case 11: if (below(2) == 0) due("sleep()", x.sleep(), m.sleep()); break;
            case 12: type(spoiled(theDay(), "mphdkaoz;;019")); due("day()", x.day(), m.day()); break;
            default: due("undo()", x.undo(), m.undo()); break;
        }
    }

    private void callOrchard(int which) {
        switch (which) {
            case 15: if (below(2) == 0) orchard(spoiled(line() + ";" + line() + (below(3) == 0 ? ";" + line() : ""), "fs,;*@0123456789")); break;
            case 16: if (below(9) == 0) tellOrchard(); else orchard(spoiled("", "fs,;*@019")); break;
            case 17: case 18: type(spoiled(theRule(), "duywsko+-*/<>=()019")); due("rule()", x.rule(), m.rule()); break;
            case 19: type(""); if (below(2) == 0) due("rule()", x.rule(), m.rule()); else due("day()", x.day(), m.day()); break;
            case 20: {
                int what = number(0, 4), v = number(0, what == 4 ? 16 : what == 3 ? 9 : 30);
                due("set(" + what + ", " + v + ")", x.set(what, v), m.set(what, v));
                break;
            }
            case 21: {
                int kind = number(0, 3), n = number(0, 16), f = below(2) == 0 ? number(0, 9) : random.nextInt();
                int step = below(2) == 0 ? number(-3, 3) : random.nextInt();
                if (below(3) == 0) kind = 2;
                due("sheet(" + kind + ", " + n + ", " + f + ", " + step + ")", x.sheet(kind, n, f, step), m.sheet(kind, n, f, step));
                break;
            }
            case 22: { int i = number(0, 1); due("keep(" + i + ")", x.keep(i) ? 1 : 0, m.keep(i) ? 1 : 0); break; }
            case 23: { int i = number(0, 1); due("again(" + i + ")", x.again(i) ? 1 : 0, m.again(i) ? 1 : 0); break; }
            case 24: { int v = random.nextInt(); for (int i = below(25); i >= 0; i--) due("sign(" + v + ")", x.sign(v), m.sign(v)); break; }
            case 25: { int n = number(0, m.text.length()); due("end(" + n + ")", x.end(n) ? 1 : 0, m.end(n) ? 1 : 0); break; }
            case 26: { int a = aStanding(); due("reached(" + a + ")", x.reached(a), m.reached(a)); break; }
            case 27: { int f = aFruit(), h = number(0, 1); due("from(" + f + ", " + h + ")", x.from(f, h), m.from(f, h)); break; }
            case 28: due("never()", x.never(), m.never()); break;
            default: {
                int f = aFruit(), s = aStanding(), h = number(0, 1);
                due("seconds(" + f + ", " + s + ", " + h + ")", x.seconds(f, s, h), m.seconds(f, s, h));
            }
        }
    }

    private void callStandings(int which) {
        int a = aStanding(), b = aStanding(), f = aFruit(), set = aSet(), n = number(0, 8);
        int v = below(2) == 0 ? number(0, 200) : number(0, 9999);
        switch (which) {
            case 30: due("both(" + a + ", " + b + ")", x.both(a, b), m.both(a, b)); break;
            case 31: due("nearest(" + f + ")", x.nearest(f), m.nearest(f)); break;
            case 32: due("fewest()", x.fewest(), m.fewest()); break;
            case 33: due("needed()", x.needed(), m.needed()); break;
            case 34: due("birds(" + n + ")", x.birds(n), m.birds(n)); break;
            case 35: due("next(" + set + ")", x.next(set), m.next(set)); break;
            case 36: case 37: due("route(" + set + ")", x.route(set), m.route(set)); break;
            case 38: due("work(" + set + ")", x.work(set), m.work(set)); break;
            case 39: if (cheap()) due("soonest()", x.soonest(), m.soonest()); break;
            case 40: due("pays(" + a + ")", x.pays(a), m.pays(a)); break;
            case 41: due("trips(" + a + ")", x.trips(a), m.trips(a)); break;
            case 42: due("helps()", x.helps(), m.helps()); break;
            case 43: due("hooked()", x.hooked(), m.hooked()); break;
            case 44: due("broken(" + a + ")", x.broken(a), m.broken(a)); break;
            case 45: case 46: if (cheap()) due("sweep(" + v + ")", x.sweep(v), m.sweep(v)); break;
            default: due("share(" + set + ")", x.share(set), m.share(set)); break;
        }
    }

    /** The model walks all ways of all sets: with all eight standings only now and then. */
    private boolean cheap() {
        return m.standings.size() < 7 || below(12) == 0;
    }

    private void callRest(int which) {
        int v = number(0, 99), e = below(2) == 0 ? number(0, 12) : number(0, 99), f = aFruit(), s = aStanding();
        switch (which) {
            case 48: case 49: case 60: {
                int t = below(2) == 0 ? number(0, 40) : number(0, 300);
                due("dusk(" + t + ")", x.dusk(t), m.dusk(t));
                break;
            }
            case 50: case 61: due("gentle()", x.gentle(), m.gentle()); break;
            case 51: case 62: due("harm()", x.harm(), m.harm()); break;
            case 52: due("ripens()", x.ripens(), m.ripens()); break;
            case 53: { int d = number(m.day, 9); due("ondays(" + d + ")", x.ondays(d), m.ondays(d)); break; }
            case 54: due("allripe()", x.allripe(), m.allripe()); break;
            case 55: due("marks(" + v + ", " + e + ")", x.marks(v, e), m.marks(v, e)); break;
            case 56: case 63: type(spoiled(theMarks(), "0123456789,,x")); due("grass(" + e + ")", x.grass(e), m.grass(e)); break;
            case 57: case 64: {
                int set = number(0, (1 << m.fruits.size()) - 1);
                if (below(2) == 0) set &= random.nextInt();
                due("fits(" + set + ")", x.fits(set), m.fits(set));
                break;
            }
            case 58: due("leaned(" + f + ", " + s + ")", x.leaned(f, s), m.leaned(f, s)); break;
            case 59: {
                int seed = random.nextInt(), n = number(1, 30), p = number(0, 10);
                due("autumn(" + seed + ", " + n + ", " + p + ")", x.autumn(seed, n, p), m.autumn(seed, n, p));
                break;
            }
            default: { int a = aStanding(); due("move(" + a + ")", x.move(a), m.move(a)); break; }
        }
    }
}
