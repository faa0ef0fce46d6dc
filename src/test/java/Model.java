import java.util.ArrayDeque;
import java.util.ArrayList;
import java.util.Arrays;
import java.util.Deque;
import java.util.List;
import java.util.NoSuchElementException;
import java.util.regex.Matcher;
import java.util.regex.Pattern;

/**
 * The document once more, as slowly and plainly as can be: whole searches where the class is clever.
 * It shares no code with the class, so that a fault must be made twice to go unseen.
 */
final class Model {
    private static final String LINE = "(?:f[0-9]{1,2},[0-9]{1,2}(?:\\*[0-9])?(?:@[0-9])?|s[0-9]{1,2},[0-9]{1,2})";
    private static final Pattern ORCHARD = Pattern.compile(LINE + "(?:;" + LINE + ")*");
    private static final String ACT = "(?:m[0-9]|[ph][0-9]{1,2}|[dkaoz])";
    private static final char MARK = (char) 300;
    private static final Pattern DAY = Pattern.compile(ACT + "(?:;" + ACT + ")*");
    private static final Pattern GRASS = Pattern.compile("[0-9]{1,2}(?:,[0-9]{1,2}){0,5},?");

    static final class Fruit {
        int x, height, worth, ripe, where;
        boolean bruised;
    }

    static final class Standing {
        int foot, fork;
    }

    static final class Saved {
        int[] where;
        boolean[] bruised;
        int ladder, foot, day, clock;
    }

    String text = "";
    String rule = "";
    List<Fruit> fruits = new ArrayList<>();
    List<Standing> standings = new ArrayList<>();
    int[] settings = {8, 3, 5, 1, 6};
    int ladder = -1, foot = 0, day = 0, clock = 0;
    List<Integer> row = new ArrayList<>();
    Deque<Saved> undos = new ArrayDeque<>();
    Saved[] kept = new Saved[2];

    // ---- texts

    int sign(int v) {
        if (text.length() + 4 > 80) return -1;
        for (int i = 3; i >= 0; i--) text += (char) ((v >> (8 * i)) & 0xff);
        return text.length();
    }

    boolean end(int n) {
        if (n < 0 || n > text.length()) return false;
        text = text.substring(0, n);
        return true;
    }

    private static boolean viable(Pattern grammar, String start) {
        Matcher m = grammar.matcher(start);
        return m.matches() || m.hitEnd();
    }

    /** -1 if the whole text fits, else where it goes wrong: no prefix that is longer could be gone on with. */
    private static int wrongAt(Pattern grammar, String s, int most) {
        for (int n = 1; n <= Math.min(s.length(), most); n++) if (!viable(grammar, s.substring(0, n))) return n - 1;
        if (s.length() > most) return most;
        return grammar.matcher(s).matches() ? -1 : s.length();
    }

    int orchard() {
        String s = text;
        text = "";
        if (s.isEmpty()) return 0;
        int wrong = wrongAt(ORCHARD, s, 76);
        int f = fruits.size(), st = standings.size();
        for (int p = 0; p < Math.min(76, s.length()) && (wrong < 0 || p < wrong); p++) {
            if (p > 0 && s.charAt(p - 1) != ';') continue;
            if (s.charAt(p) == 'f' && ++f > 16) return -1 - p;
            if (s.charAt(p) == 's' && ++st > 8) return -1 - p;
        }
        if (wrong >= 0) return -1 - wrong;
        String[] lines = s.split(";");
        for (String line : lines) addLine(line);
        undos.clear();
        kept[0] = kept[1] = null;
        return lines.length;
    }

    private void addLine(String line) {
        String[] parts = line.substring(1).split("[,*@]");
        if (line.charAt(0) == 's') {
            Standing s = new Standing();
            s.foot = Integer.parseInt(parts[0]);
            s.fork = Integer.parseInt(parts[1]);
            standings.add(s);
            return;
        }
        Fruit f = new Fruit();
        f.x = Integer.parseInt(parts[0]);
        f.height = Integer.parseInt(parts[1]);
        int star = line.indexOf('*'), when = line.indexOf('@');
        f.worth = star < 0 ? 1 : line.charAt(star + 1) - '0';
        f.ripe = when < 0 ? 0 : line.charAt(when + 1) - '0';
        fruits.add(f);
    }

    int rule() {
        String s = text;
        text = "";
        if (s.isEmpty()) {
            rule = "";
            return 0;
        }
        for (int n = 1; n <= Math.min(40, s.length()); n++) if (!ruleViable(s.substring(0, n))) return -n;
        if (s.length() > 40) return -41;
        if (!ruleWhole(s)) return -1 - s.length();
        rule = s;
        return 0;
    }

    /** A start can be gone on with, if closing it by a thing and brackets makes it whole. */
    private static boolean ruleViable(String start) {
        for (String thing : new String[] {"", "1", "d"}) {
            for (int close = 0; close <= 4; close++) if (ruleWhole(start + thing + ")".repeat(close))) return true;
        }
        return false;
    }

    private static boolean ruleWhole(String s) {
        if (s.indexOf(MARK) >= 0) return false;
        int deep = 0, deepest = 0;
        for (char c : s.toCharArray()) {
            deep += c == '(' ? 1 : c == ')' ? -1 : 0;
            deepest = Math.max(deepest, deep);
            if (deep < 0) return false;
        }
        if (deep != 0 || deepest > 4) return false;
        String t = s;
        for (int i = 0; i < 6; i++) {
            Matcher m = Pattern.compile("\\(([^()]*)\\)").matcher(t);
            StringBuilder b = new StringBuilder();
            while (m.find()) {
                if (!flatWhole(m.group(1))) return false;
                m.appendReplacement(b, "" + MARK);
            }
            m.appendTail(b);
            t = b.toString();
        }
        return flatWhole(t);
    }

    /** MARK, which no text can hold, stands for a bracket that was whole. */
    private static boolean flatWhole(String s) {
        String thing = "-*(?:[0-9]{1,3}|[duywsko" + MARK + "])";
        String sum = thing + "(?:[-+*/]" + thing + ")*";
        return s.matches(sum + "(?:[<>=]" + sum + ")?");
    }

    private int value(String s, int[] names) {
        int split = lastOutside(s, "<>=");
        if (split >= 0) {
            int a = value(s.substring(0, split), names), b = value(s.substring(split + 1), names);
            char c = s.charAt(split);
            return (c == '<' ? a < b : c == '>' ? a > b : a == b) ? 1 : 0;
        }
        split = lastOutside(s, "+-");
        if (split >= 0) {
            int a = value(s.substring(0, split), names), b = value(s.substring(split + 1), names);
            return s.charAt(split) == '+' ? a + b : a - b;
        }
        split = lastOutside(s, "*/");
        if (split >= 0) {
            int a = value(s.substring(0, split), names), b = value(s.substring(split + 1), names);
            return s.charAt(split) == '*' ? a * b : b == 0 ? 0 : a / b;
        }
        if (s.charAt(0) == '-') return -value(s.substring(1), names);
        if (s.charAt(0) == '(') return value(s.substring(1, s.length() - 1), names);
        if (Character.isDigit(s.charAt(0))) return Integer.parseInt(s);
        return names["duywsko".indexOf(s.charAt(0))];
    }

    /** The last such operator outside brackets that has a thing ahead of it. */
    private static int lastOutside(String s, String which) {
        int deep = 0, found = -1;
        for (int i = 0; i < s.length(); i++) {
            char c = s.charAt(i);
            deep += c == '(' ? 1 : c == ')' ? -1 : 0;
            if (deep == 0 && i > 0 && which.indexOf(c) >= 0 && "<>=+-*/(".indexOf(s.charAt(i - 1)) < 0) found = i;
        }
        return found;
    }

    // ---- what there is

    int fruit(int fruit, int what) {
        if (fruit < 0 || fruit >= fruits.size()) throw new NoSuchElementException();
        Fruit f = fruits.get(fruit);
        if (what == 6) {
            int bits = 0;
            for (int b = 0; b < fruits.size(); b++) if (isBelow(b, fruit)) bits |= 1 << b;
            return bits;
        }
        int[] all = {f.x, f.height, f.worth, f.ripe, f.where, f.bruised ? 1 : 0};
        if (what < 0 || what > 5) throw new NoSuchElementException();
        return all[what];
    }

    int standing(int s, int what) {
        if (s < 0 || s >= standings.size() || what < 0 || what > 2) throw new NoSuchElementException();
        return what == 0 ? standings.get(s).foot : what == 1 ? standings.get(s).fork : downSeconds(s);
    }

    int set(int what, int v) {
        int[][] bounds = {{0, 30}, {0, 30}, {0, 30}, {0, 9}, {1, 16}};
        if (what < 0 || what > 4 || v < bounds[what][0] || v > bounds[what][1]) return -1;
        int was = settings[what];
        settings[what] = v;
        return was;
    }

    int sheet(int kind, int n, int f, int step) {
        if (kind < 0 || kind > 3 || n > 16) return -1;
        if (kind == 3) {
            for (Fruit g : fruits) g.worth = 0;
            return -3;
        }
        if (n < 0) return -2;
        int sum = 0;
        for (int i = 0; i < fruits.size(); i++) {
            int w = 0;
            if (i < n) {
                int entry = f + i * step;
                if (kind == 0) entry = ((entry & 255) ^ 128) - 128;
                if (kind == 1) entry = ((entry & 65535) ^ 32768) - 32768;
                w = entry < 0 ? 0 : entry > 9 ? 9 : entry;
            }
            fruits.get(i).worth = w;
            sum += w;
        }
        return sum;
    }

    private boolean isBelow(int b, int a) {
        Fruit fb = fruits.get(b), fa = fruits.get(a);
        return fb.where == 0 && fa.where == 0 && Math.abs(fb.x - fa.x) <= 1 && fb.height < fa.height;
    }

    private boolean isReached(int f, int s, int reach) {
        int dx = fruits.get(f).x - standings.get(s).foot;
        int dy = Math.max(0, fruits.get(f).height - standings.get(s).fork);
        return dx * dx + dy * dy <= reach * reach;
    }

    private int reach(int helper, int hook) {
        return settings[0] + (helper == 1 ? settings[1] : 0) + (hook == 1 ? settings[2] : 0);
    }

    private int downSeconds(int s) {
        return 3 + (int) Math.ceil(standings.get(s).fork / 10.0);
    }

    private int moveSeconds(int a, int b) {
        return a < 0 ? 9 : 9 + settings[3] * Math.abs(standings.get(a).foot - standings.get(b).foot);
    }

    private int worth(int f) {
        return fruits.get(f).bruised ? fruits.get(f).worth / 2 : fruits.get(f).worth;
    }

    private int worths(int bits) {
        int sum = 0;
        for (int f = 0; f < fruits.size(); f++) if ((bits >> f & 1) == 1) sum += worth(f);
        return sum;
    }

    private int time(int f, int s, int hook, int k) {
        int d = Math.abs(fruits.get(f).x - standings.get(s).foot);
        int u = Math.max(0, fruits.get(f).height - standings.get(s).fork);
        int[] names = {d, u, fruits.get(f).height, worth(f), s, k, hook};
        int v = value(rule.isEmpty() ? "2+d/4+u/2" : rule, names);
        return v < 1 ? 1 : v > 99 ? 99 : v;
    }

    private int bits(int where) {
        int bits = 0;
        for (int f = 0; f < fruits.size(); f++) if (fruits.get(f).where == where) bits |= 1 << f;
        return bits;
    }

    // ---- the work

    private Saved save() {
        Saved s = new Saved();
        s.where = fruits.stream().mapToInt(f -> f.where).toArray();
        s.bruised = new boolean[fruits.size()];
        for (int i = 0; i < fruits.size(); i++) s.bruised[i] = fruits.get(i).bruised;
        s.ladder = ladder;
        s.foot = foot;
        s.day = day;
        s.clock = clock;
        return s;
    }

    private void load(Saved s) {
        for (int i = 0; i < fruits.size(); i++) {
            fruits.get(i).where = s.where[i];
            fruits.get(i).bruised = s.bruised[i];
        }
        ladder = s.ladder;
        foot = s.foot;
        day = s.day;
        clock = s.clock;
    }

    private void push(Saved s) {
        undos.addLast(s);
        if (undos.size() > 12) undos.removeFirst();
    }

    private int act(char kind, int a, int b) {
        switch (kind) {
            case 'm':
                if (a < 0 || a >= standings.size()) return -1;
                if (a == ladder) return -2;
                int t = moveSeconds(ladder, a);
                if (bits(1) != 0) t += downSeconds(ladder);
                for (Fruit f : fruits) if (f.where == 1) f.where = 2;
                ladder = a;
                clock = Math.min(9999, clock + t);
                return t;
            case 'f':
                if (a != 0 && a != 1) return -1;
                int was = foot;
                foot = a;
                return was;
            case 'p':
                return actPick(a, b);
            case 'd':
                if (ladder < 0 || bits(1) == 0) return -2;
                int n = Integer.bitCount(bits(1));
                for (Fruit f : fruits) if (f.where == 1) f.where = 2;
                clock = Math.min(9999, clock + downSeconds(ladder));
                return n;
            case 'k':
                return actShake();
            default:
                if (day == 9) return -1;
                day++;
                ladder = -1;
                clock = 0;
                for (Fruit f : fruits) if (f.where == 1) f.where = 2;
                return day;
        }
    }

    private int actPick(int fruit, int hook) {
        if (fruit < 0 || fruit >= fruits.size() || hook < 0 || hook > 1) return -1;
        Fruit f = fruits.get(fruit);
        if (f.where != 0) return -2;
        if (f.ripe > day) return -3;
        if (ladder < 0 || !isReached(fruit, ladder, reach(foot, hook))) return -4;
        int k = Integer.bitCount(bits(1));
        if (k >= settings[4]) return -5;
        int t = time(fruit, ladder, hook, k);
        for (int b = 0; b < fruits.size(); b++) if (isBelow(b, fruit)) fruits.get(b).bruised = true;
        f.where = 1;
        clock = Math.min(9999, clock + t);
        return t;
    }

    private int actShake() {
        if (ladder < 0) return -2;
        List<Integer> fall = new ArrayList<>();
        for (int f = 0; f < fruits.size(); f++) {
            if (fruits.get(f).where == 0 && fruits.get(f).ripe <= day && isReached(f, ladder, reach(foot, 0))) fall.add(f);
        }
        for (int a : fall) for (int b = 0; b < fruits.size(); b++) if (isBelow(b, a)) fruits.get(b).bruised = true;
        for (int a : fall) {
            fruits.get(a).where = 3;
            fruits.get(a).bruised = true;
        }
        clock = Math.min(9999, clock + 5);
        return fall.size();
    }

    private int done(char kind, int a, int b) {
        Saved s = save();
        int answer = act(kind, a, b);
        if (answer >= 0) push(s);
        return answer;
    }

    int move(int s) { return done('m', s, 0); }

    int foot(int v) { return done('f', v, 0); }

    int pick(int f, int hook) { return done('p', f, hook); }

    int down() { return done('d', 0, 0); }

    int shake() { return done('k', 0, 0); }

    int sleep() { return done('z', 0, 0); }

    int day() {
        String s = text;
        text = "";
        if (s.isEmpty()) return tell(0, 0, 0);
        int wrong = wrongAt(DAY, s, 60);
        if (wrong >= 0) return -1 - wrong;
        Saved before = save();
        int done = 0, picked = 0, stopped = 0;
        for (String act : s.split(";")) {
            char c = act.charAt(0);
            int n = act.length() > 1 ? Integer.parseInt(act.substring(1)) : 0;
            int answer = c == 'm' ? act('m', n, 0) : c == 'p' ? act('p', n, 0) : c == 'h' ? act('p', n, 1)
                : c == 'a' ? act('f', 1, 0) : c == 'o' ? act('f', 0, 0) : act(c, 0, 0);
            if (answer < 0) {
                stopped = 1;
                break;
            }
            done++;
            if (c == 'p' || c == 'h') picked++;
        }
        if (done > 0) push(before);
        return tell(done, stopped, picked);
    }

    int undo() {
        if (undos.isEmpty()) return -1;
        load(undos.removeLast());
        return undos.size();
    }

    private int tell(int answer, int... numbers) {
        row = new ArrayList<>();
        for (int n : numbers) row.add(n);
        return answer;
    }

    private int tellRow(int answer, List<Integer> numbers) {
        row = new ArrayList<>(numbers);
        return answer;
    }

    // ---- what is reached

    private int reachedBits(int s, int reach) {
        int bits = 0;
        for (int f = 0; f < fruits.size(); f++) if (isReached(f, s, reach)) bits |= 1 << f;
        return bits;
    }

    private boolean badStanding(int s) { return s < 0 || s >= standings.size(); }

    private boolean badFruit(int f) { return f < 0 || f >= fruits.size(); }

    private boolean badSet(int those) { return those < 0 || those >= 1 << standings.size(); }

    int reached(int s) {
        if (badStanding(s)) return -1;
        return tell(reachedBits(s, reach(0, 0)), reachedBits(s, reach(1, 0)), reachedBits(s, reach(1, 1)));
    }

    int from(int f, int hook) {
        if (badFruit(f) || hook < 0 || hook > 1) return -1;
        int bits = 0;
        for (int s = 0; s < standings.size(); s++) if (isReached(f, s, reach(foot, hook))) bits |= 1 << s;
        return bits;
    }

    int never() {
        int bits = 0;
        for (int f = 0; f < fruits.size(); f++) {
            boolean any = false;
            for (int s = 0; s < standings.size(); s++) any |= isReached(f, s, reach(1, 1));
            if (!any && fruits.get(f).where == 0) bits |= 1 << f;
        }
        return tell(bits, worths(bits));
    }

    int seconds(int f, int s, int hook) {
        if (badFruit(f) || badStanding(s) || hook < 0 || hook > 1) return -1;
        return isReached(f, s, reach(foot, hook)) ? time(f, s, hook, 0) : -2;
    }

    // ---- standings

    private int ripeHanging(int when) {
        int bits = 0;
        for (int f = 0; f < fruits.size(); f++) {
            if (fruits.get(f).where == 0 && fruits.get(f).ripe <= when) bits |= 1 << f;
        }
        return bits;
    }

    private int byHand(int set, int helper) {
        int bits = 0;
        for (int s = 0; s < standings.size(); s++) if ((set >> s & 1) == 1) bits |= reachedBits(s, reach(helper, 0));
        return bits;
    }

    private int all() { return (1 << standings.size()) - 1; }

    private int wanted() { return ripeHanging(day) & byHand(all(), foot); }

    int both(int a, int b) {
        if (badStanding(a) || badStanding(b) || a == b) return -1;
        int one = wanted() & byHand(1 << a, foot), two = wanted() & byHand(1 << b, foot);
        return tell(one & two, one & ~two, two & ~one);
    }

    int nearest(int f) {
        if (badFruit(f)) return -1;
        int best = -2;
        for (int lean = 0; lean <= 30; lean++) {
            for (int s = 0; s < standings.size(); s++) {
                if (isReached(f, s, settings[0] + lean)) return tell(s, lean);
            }
        }
        return best;
    }

    private static int compare(List<Integer> a, List<Integer> b) {
        for (int i = 0; i < Math.min(a.size(), b.size()); i++) {
            if (!a.get(i).equals(b.get(i))) return a.get(i) - b.get(i);
        }
        return a.size() - b.size();
    }

    private static List<Integer> members(int set) {
        List<Integer> list = new ArrayList<>();
        for (int i = 0; i < 31; i++) if ((set >> i & 1) == 1) list.add(i);
        return list;
    }

    private List<Integer> cover(int goal, int allowed, int helper) {
        List<Integer> best = null;
        for (int set = 0; set <= all(); set++) {
            if ((set & ~allowed) != 0 || (goal & ~byHand(set, helper)) != 0) continue;
            List<Integer> m = members(set);
            if (best == null || m.size() < best.size() || m.size() == best.size() && compare(m, best) < 0) best = m;
        }
        return best;
    }

    int fewest() {
        List<Integer> c = cover(wanted(), all(), foot);
        return tellRow(c.size(), c);
    }

    int needed() {
        int those = 0, lone = 0;
        for (int f : members(wanted())) {
            int from = 0;
            for (int s = 0; s < standings.size(); s++) if (isReached(f, s, reach(foot, 0))) from |= 1 << s;
            if (Integer.bitCount(from) == 1) {
                those |= from;
                lone |= 1 << f;
            }
        }
        return tell(those, lone);
    }

    private int left(int set) { return wanted() & ~byHand(set, foot); }

    /** The least of rows of numbers; each row ends with what is to be told. */
    private static List<Integer> least(List<List<Integer>> rows) {
        List<Integer> best = null;
        for (List<Integer> r : rows) if (best == null || compare(r, best) < 0) best = r;
        return best;
    }

    int birds(int n) {
        if (n < 0 || n > 8) return -1;
        List<List<Integer>> rows = new ArrayList<>();
        for (int set = 0; set <= all(); set++) {
            if (Integer.bitCount(set) <= n) rows.add(List.of(worths(left(set)), Integer.bitCount(set), set, left(set)));
        }
        List<Integer> best = least(rows);
        return tell(best.get(0), best.get(2), best.get(3));
    }

    int next(int those) {
        if (badSet(those)) return -1;
        List<List<Integer>> rows = new ArrayList<>();
        for (int s = 0; s < standings.size(); s++) {
            if ((those >> s & 1) == 0) rows.add(List.of(worths(left(those | 1 << s)), s));
        }
        if (rows.isEmpty()) return -2;
        List<Integer> best = least(rows);
        return tell(best.get(1), best.get(0), worths(left(those)));
    }

    private List<Integer> bestWay;
    private int bestWaySeconds;

    private void ways(int at, int left, int seconds, List<Integer> way) {
        if (left == 0) {
            if (bestWay == null || seconds < bestWaySeconds) {
                bestWay = new ArrayList<>(way);
                bestWaySeconds = seconds;
            }
            return;
        }
        for (int s : members(left)) {
            way.add(s);
            ways(s, left & ~(1 << s), seconds + moveSeconds(at, s), way);
            way.remove(way.size() - 1);
        }
    }

    private void findWay(int those) {
        bestWay = null;
        ways(ladder, ladder < 0 ? those : those & ~(1 << ladder), 0, new ArrayList<>());
    }

    int route(int those) {
        if (badSet(those)) return -1;
        findWay(those);
        return tellRow(bestWaySeconds, bestWay);
    }

    private int[] works(int those, boolean withWay) {
        int[] many = new int[8];
        int picking = 0, downs = 0;
        for (int f : members(wanted() & byHand(those, foot))) {
            int best = -1;
            for (int s : members(those)) {
                if (isReached(f, s, reach(foot, 0)) && (best < 0 || time(f, s, 0, 0) < time(f, best, 0, 0))) best = s;
            }
            many[best]++;
            picking += time(f, best, 0, 0);
        }
        for (int s : members(those)) downs += (int) Math.ceil(many[s] / (double) settings[4]) * downSeconds(s);
        if (withWay) findWay(those);
        int moves = withWay ? bestWaySeconds : 0;
        return new int[] {moves + picking + downs, moves, picking, downs};
    }

    int work(int those) {
        if (badSet(those)) return -1;
        int[] w = works(those, true);
        return tell(w[0], w[1], w[2], w[3]);
    }

    int soonest() {
        List<List<Integer>> rows = new ArrayList<>();
        for (int set = 0; set <= all(); set++) {
            if (left(set) == 0) rows.add(List.of(works(set, true)[0], Integer.bitCount(set), set));
        }
        List<Integer> best = least(rows);
        return tell(best.get(0), best.get(2));
    }

    int pays(int s) {
        if (badStanding(s)) return -1;
        int those = wanted() & byHand(1 << s, foot);
        int t = 0;
        for (int f : members(those)) t += time(f, s, 0, 0);
        int often = (int) Math.ceil(Integer.bitCount(those) / (double) settings[4]);
        return tell(worths(those), ladder == s ? 0 : moveSeconds(ladder, s), t, often * downSeconds(s));
    }

    int trips(int s) {
        if (badStanding(s)) return -1;
        int in = ladder == s ? Integer.bitCount(bits(1)) : 0, often = 0;
        for (int f : members(wanted() & byHand(1 << s, foot))) {
            if (in >= settings[4]) {
                in = 0;
                often++;
            }
            in++;
        }
        return tell(often, in);
    }

    int helps() {
        int without = ripeHanging(day) & byHand(all(), 0), with = ripeHanging(day) & byHand(all(), 1);
        int less = cover(without, all(), 0).size() - cover(with, all(), 1).size();
        return tell(less, Integer.bitCount(without), Integer.bitCount(with));
    }

    int hooked() {
        int bits = 0;
        for (int f : members(ripeHanging(day))) if (from(f, 1) != 0 && from(f, 0) == 0) bits |= 1 << f;
        int best = -1, most = 0;
        for (int s = 0; s < standings.size(); s++) {
            int n = Integer.bitCount(bits & reachedBits(s, reach(foot, 1)));
            if (n > most) {
                most = n;
                best = s;
            }
        }
        return tell(bits, best, most);
    }

    int broken(int s) {
        if (badStanding(s)) return -1;
        int others = all() & ~(1 << s);
        int lost = left(others);
        return tell(cover(wanted() & ~lost, others, foot).size(), lost);
    }

    int sweep(int v) {
        if (v < 0 || v > 9999) return -1;
        List<List<Integer>> rows = new ArrayList<>();
        for (int set = 0; set <= all(); set++) {
            int w = works(set, true)[0];
            if (w <= v) rows.add(List.of(-worths(wanted() & byHand(set, foot)), w, set));
        }
        List<Integer> best = least(rows);
        return tell(-best.get(0), best.get(2), best.get(1));
    }

    // ---- from where the ladder is

    private int here() { return ripeHanging(day) & reachedBits(ladder, reach(foot, 0)); }

    int dusk(int v) {
        if (v < 0 || v > 300) return -1;
        if (ladder < 0) return -2;
        int those = here();
        List<Integer> m = members(those);
        int[] worth = new int[16], time = new int[16];
        for (int f : m) {
            worth[f] = worth(f);
            time[f] = time(f, ladder, 0, 0);
        }
        int best = -1, bestTime = 0, bestSet = 0;
        for (int pick = 0; pick < 1 << m.size(); pick++) {
            int w = 0, t = 0, set = 0;
            for (int i = 0; i < m.size(); i++) {
                if ((pick >> i & 1) == 0) continue;
                w += worth[m.get(i)];
                t += time[m.get(i)];
                set |= 1 << m.get(i);
            }
            if (t > v) continue;
            if (w > best || w == best && (t < bestTime || t == bestTime && set < bestSet)) {
                best = w;
                bestTime = t;
                bestSet = set;
            }
        }
        return tell(best, bestSet, bestTime);
    }

    int gentle() {
        if (ladder < 0) return -2;
        Saved before = save();
        boolean[] seen = new boolean[1 << 16];
        List<Integer> best = new ArrayList<>();
        gentleFrom(members(here()), new ArrayList<>(), 0, seen, best);
        load(before);
        return tellRow(best.size(), best);
    }

    /** Goes through sets in the order of rows: the first row that comes to a set is the least to it. */
    private void gentleFrom(List<Integer> can, List<Integer> row, int set, boolean[] seen, List<Integer> best) {
        if (row.size() > best.size() || row.size() == best.size() && compare(row, best) < 0) {
            best.clear();
            best.addAll(row);
        }
        seen[set] = true;
        for (int f : can) {
            if (fruits.get(f).where != 0 || fruit(f, 6) != 0 || seen[set | 1 << f]) continue;
            fruits.get(f).where = 1;
            row.add(f);
            gentleFrom(can, row, set | 1 << f, seen, best);
            row.remove(row.size() - 1);
            fruits.get(f).where = 0;
        }
    }

    int harm() {
        if (ladder < 0) return -2;
        Saved before = save();
        int hit = 0;
        List<Integer> order = members(here());
        int worthBefore = worths((1 << fruits.size()) - 1);
        for (int f : order) {
            int low = fruit(f, 6);
            hit |= low;
            for (int b : members(low)) fruits.get(b).bruised = true;
            fruits.get(f).where = 1;
        }
        int less = worthBefore - worths((1 << fruits.size()) - 1);
        load(before);
        return tell(hit, less);
    }

    // ---- two ladders, days

    int share(int those) {
        if (badSet(those)) return -1;
        int[] load = new int[8];
        for (int f : members(wanted() & byHand(those, foot))) {
            for (int s : members(those)) {
                if (isReached(f, s, reach(foot, 0))) {
                    load[s] += time(f, s, 0, 0);
                    break;
                }
            }
        }
        List<List<Integer>> rows = new ArrayList<>();
        for (int set = 0; set <= all(); set++) {
            if ((set & ~those) != 0) continue;
            int one = 0, other = 0;
            for (int s : members(set)) one += load[s];
            for (int s : members(those & ~set)) other += load[s];
            rows.add(List.of(Math.max(one, other), set, other));
        }
        List<Integer> best = least(rows);
        return tell(best.get(0), best.get(1), best.get(2));
    }

    private int firstIn(int when) {
        int bits = 0;
        for (int f : members(bits(0))) if (Math.max(day, fruits.get(f).ripe) == when) bits |= 1 << f;
        return bits;
    }

    int ripens() {
        int best = day;
        for (int d = day; d <= 9; d++) if (Integer.bitCount(firstIn(d)) > Integer.bitCount(firstIn(best))) best = d;
        int later = cover(bits(0) & byHand(all(), foot), all(), foot).size();
        return tell(Integer.bitCount(firstIn(best)), best, later);
    }

    int ondays(int when) {
        if (when < day || when > 9) return -1;
        List<Integer> c = cover(firstIn(when) & byHand(all(), foot), all(), foot);
        return tellRow(c.size(), c);
    }

    int allripe() {
        int first = day, many = 0, worth = 0;
        for (int f : members(bits(0))) {
            first = Math.max(first, fruits.get(f).ripe);
            if (fruits.get(f).ripe > day) {
                many++;
                worth += worth(f);
            }
        }
        return tell(first, many, worth);
    }

    // ---- grass

    int marks(int v, int e) {
        if (v < 0 || v > 99 || e < 0 || e > 99) return -1;
        int bits = 0;
        for (int s = 0; s < standings.size(); s++) if (Math.abs(standings.get(s).foot - v) <= e) bits |= 1 << s;
        return bits;
    }

    int grass(int e) {
        String s = text;
        text = "";
        if (e < 0 || e > 99) return -100;
        int wrong = wrongAt(GRASS, s, 80);
        if (wrong < 0 && s.endsWith(",")) wrong = s.length();
        if (wrong >= 0) return -1 - wrong;
        int[] at = Arrays.stream(s.split(",")).mapToInt(Integer::parseInt).toArray();
        List<Integer> first = new ArrayList<>();
        int n = rows(at, e, new ArrayList<>(), first);
        return tellRow(n, first);
    }

    private int rows(int[] at, int e, List<Integer> row, List<Integer> first) {
        if (row.size() == at.length) {
            if (first.isEmpty()) first.addAll(row);
            return 1;
        }
        int n = 0;
        for (int s : members(marks(at[row.size()], e))) {
            if (!row.isEmpty() && row.get(row.size() - 1) == s) continue;
            row.add(s);
            n += rows(at, e, row, first);
            row.remove(row.size() - 1);
        }
        return n;
    }

    int fits(int those) {
        if (those < 0 || those >= 1 << fruits.size()) return -1;
        int n = 0;
        List<List<Integer>> small = new ArrayList<>(), great = new ArrayList<>();
        for (int set = 0; set <= all(); set++) {
            boolean fit = (those & ~byHand(set, foot)) == 0;
            for (int s : members(set)) fit &= (byHand(1 << s, foot) & those) != 0;
            if (!fit) continue;
            n++;
            small.add(List.of(Integer.bitCount(set), set));
            great.add(List.of(-Integer.bitCount(set), set));
        }
        return n == 0 ? tell(0, -1, -1) : tell(n, least(small).get(1), least(great).get(1));
    }

    int leaned(int f, int s) {
        if (badFruit(f) || badStanding(s)) return -1;
        for (int lean = 0; lean <= 30; lean++) if (isReached(f, s, settings[0] + lean)) return lean;
        return -2;
    }

    int autumn(int seed, int n, int p) {
        if (n < 1 || n > 30 || p < 0 || p > 10) return -1;
        int r = seed, fallen = 0, most = 0, when = -1;
        for (int k = 1; k <= n; k++) {
            int now = 0;
            for (int f : members(ripeHanging(Math.min(9, day + k)) & ~fallen)) {
                r = r * 1103515245 + 12345;
                int draw = (int) ((r & 0xffffffffL) / 65536 % 10);
                if (draw < p) {
                    fallen |= 1 << f;
                    now++;
                }
            }
            if (now > most) {
                most = now;
                when = k;
            }
        }
        return tell(Integer.bitCount(fallen), fallen, worths(fallen), when);
    }

    // ---- kept

    boolean keep(int i) {
        if (i != 0 && i != 1) return false;
        kept[i] = save();
        return true;
    }

    boolean again(int i) {
        if (i != 0 && i != 1 || kept[i] == null) return false;
        load(kept[i]);
        undos.clear();
        return true;
    }

    int count(int what) {
        int bruised = 0;
        for (int f = 0; f < fruits.size(); f++) if (fruits.get(f).bruised) bruised |= 1 << f;
        int[] all = {fruits.size(), standings.size(), ladder, day, clock, bits(0), bits(1), bits(2), bits(3), bruised,
            worths(bits(2)), undos.size(), row.size(), text.length()};
        return what < 0 || what > 13 ? -100 : all[what];
    }

    int row(int i) {
        if (i < 0 || i >= row.size()) throw new NoSuchElementException();
        return row.get(i);
    }
}
