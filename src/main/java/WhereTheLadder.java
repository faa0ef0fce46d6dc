import java.util.NoSuchElementException;

/**
 * One tree, full, and a heavy ladder that is set here or there: what the document promises of it.
 * Sets of FRUITS and of STANDINGS are bits throughout.
 */
public final class WhereTheLadder {
    public static final int NONE = -1;

    private static final int CANNOT = -2;
    private static final int OUT_OF_ORDER = -100;
    private static final int MOST_FRUITS = 16;
    private static final int MOST_STANDINGS = 8;
    private static final int LAST_DAY = 9;
    private static final int MOST_CLOCK = 9999;
    private static final int MOST_LEAN = 30;
    private static final int MOST_DUSK = 300;
    private static final int MOST_MARKS = 6;

    private static final int ORCHARD_SIGNS = 76;
    private static final int RULE_SIGNS = 40;
    private static final int DAY_SIGNS = 60;
    private static final int MOST_ACTS = 30;

    private static final int ARM = 0;
    private static final int LEAN = 1;
    private static final int HOOK = 2;
    private static final int MOVING = 3;
    private static final int ROOM = 4;
    private static final int[] LEAST_SETTING = {0, 0, 0, 0, 1};
    private static final int[] MOST_SETTING = {30, 30, 30, 9, 16};

    private final Text text;
    private final Plan plan;
    private final Garden garden;
    private final Orchard tree;
    private final Moment now;
    private final Past past;
    private final Row told;
    private final Marks grassMarks;
    private final int[] acts;

    public WhereTheLadder() {
        text = new Text();
        plan = new Plan();
        garden = plan.garden;
        tree = garden.tree;
        now = garden.now;
        past = new Past();
        told = new Row();
        grassMarks = new Marks();
        acts = new int[MOST_ACTS];
    }

    // ---- the orchard

    public int sign(int v) {
        return text.add(v);
    }

    public boolean end(int n) {
        return text.cut(n);
    }

    public int orchard() {
        text.open(ORCHARD_SIGNS);
        int lines = text.length == 0 ? 0 : tree.readLines(text);
        boolean good = lines != NONE && text.isThrough();
        int answer = good ? lines : text.wrong();
        if (good && lines > 0) {
            tree.takeLines();
            past.forgetAll();
        }
        text.clear();
        return answer;
    }

    public int rule() {
        text.open(RULE_SIGNS);
        int answer = 0;
        if (text.length == 0) {
            garden.pace.drop();
        } else if (!garden.pace.read(text)) {
            answer = text.wrong();
        }
        text.clear();
        return answer;
    }

    public int fruit(int fruit, int what) throws NoSuchElementException {
        if (!tree.hasFruit(fruit)) {
            throw new NoSuchElementException();
        }
        switch (what) {
            case 0:
                return tree.x[fruit];
            case 1:
                return tree.height[fruit];
            case 2:
                return tree.worth[fruit];
            case 3:
                return tree.ripe[fruit];
            case 4:
                return now.whereIs(fruit);
            case 5:
                return now.bruised >> fruit & 1;
            case 6:
                return tree.lowerThan(fruit, garden.hanging());
            default:
                throw new NoSuchElementException();
        }
    }

    public int standing(int standing, int what) throws NoSuchElementException {
        if (!tree.hasStanding(standing)) {
            throw new NoSuchElementException();
        }
        switch (what) {
            case 0:
                return tree.foot[standing];
            case 1:
                return tree.fork[standing];
            case 2:
                return tree.downSeconds(standing);
            default:
                throw new NoSuchElementException();
        }
    }

    public int set(int what, int v) {
        if (what < ARM || what > ROOM || v < LEAST_SETTING[what] || v > MOST_SETTING[what]) {
            return NONE;
        }
        int before = tree.settings[what];
        tree.settings[what] = v;
        return before;
    }

    public int sheet(int kind, int n, int f, int step) {
        if (kind < 0 || kind > 3 || n > MOST_FRUITS) {
            return NONE;
        }
        if (kind == 3) {
            tree.fillWorths(2, 0, 0, 0);
            return -3;
        }
        return n < 0 ? CANNOT : tree.fillWorths(kind, n, f, step);
    }

    // ---- the work

    public int move(int standing) {
        past.note(now);
        return holdIfDone(garden.setLadder(standing));
    }

    public int foot(int v) {
        past.note(now);
        return holdIfDone(garden.setHelper(v));
    }

    public int pick(int fruit, int hook) {
        past.note(now);
        return holdIfDone(garden.pickFruit(fruit, hook));
    }

    public int down() {
        past.note(now);
        return holdIfDone(garden.goDown());
    }

    public int shake() {
        past.note(now);
        return holdIfDone(garden.shakeTree());
    }

    public int sleep() {
        past.note(now);
        return holdIfDone(garden.sleepOver());
    }

    public int day() {
        text.open(DAY_SIGNS);
        int many = text.length == 0 ? 0 : readActs();
        boolean good = many != NONE && text.isThrough();
        int answer = good ? doActs(many) : text.wrong();
        text.clear();
        return answer;
    }

    public int undo() {
        if (past.undoable == 0) {
            return NONE;
        }
        past.goBack(now);
        return past.undoable;
    }

    private int holdIfDone(int answer) {
        if (answer >= 0) {
            past.hold();
        }
        return answer;
    }

    private int readActs() {
        for (int n = 0; n < MOST_ACTS; n++) {
            int act = readAct();
            if (act == NONE) {
                return NONE;
            }
            acts[n] = act;
            if (!text.take(';')) {
                return n + 1;
            }
        }
        return NONE;
    }

    /** An ACT as one number: its letter times 100, and the number behind it. */
    private int readAct() {
        int letter = text.here();
        int digits = 0;
        switch (letter) {
            case 'm':
                digits = 1;
                break;
            case 'p':
            case 'h':
                digits = 2;
                break;
            case 'd':
            case 'k':
            case 'a':
            case 'o':
            case 'z':
                break;
            default:
                return NONE;
        }
        text.skip();
        if (digits == 0) {
            return letter * 100;
        }
        int number = text.readNumber(digits);
        return number == NONE ? NONE : letter * 100 + number;
    }

    private int doActs(int many) {
        past.note(now);
        int done = 0;
        int picked = 0;
        int stopped = 0;
        for (int i = 0; i < many && i < MOST_ACTS && stopped == 0; i++) {
            int letter = acts[i] / 100;
            if (doAct(letter, acts[i] % 100) < 0) {
                stopped = 1;
            } else {
                done++;
                picked += letter == 'p' || letter == 'h' ? 1 : 0;
            }
        }
        if (done > 0) {
            past.hold();
        }
        tell(stopped, picked);
        return done;
    }

    private int doAct(int letter, int number) {
        switch (letter) {
            case 'm':
                return garden.setLadder(number);
            case 'p':
                return garden.pickFruit(number, 0);
            case 'h':
                return garden.pickFruit(number, 1);
            case 'd':
                return garden.goDown();
            case 'k':
                return garden.shakeTree();
            case 'a':
                return garden.setHelper(1);
            case 'o':
                return garden.setHelper(0);
            default:
                return garden.sleepOver();
        }
    }

    // ---- what is reached

    public int reached(int standing) {
        if (!tree.hasStanding(standing)) {
            return NONE;
        }
        tell(tree.within(standing, tree.reach(1, 0)), tree.within(standing, tree.reach(1, 1)));
        return tree.within(standing, tree.reach(0, 0));
    }

    public int from(int fruit, int hook) {
        if (!tree.hasFruit(fruit) || !isYesOrNo(hook)) {
            return NONE;
        }
        int reach = tree.reach(now.helper, hook);
        int those = 0;
        for (int s = 0; s < tree.standings; s++) {
            if (tree.isWithin(fruit, s, reach)) {
                those |= 1 << s;
            }
        }
        return those;
    }

    public int never() {
        int out = garden.hanging();
        for (int s = 0; s < tree.standings; s++) {
            out &= ~tree.within(s, tree.reach(1, 1));
        }
        tell(garden.worthOf(out));
        return out;
    }

    public int seconds(int fruit, int standing, int hook) {
        if (!tree.hasFruit(fruit) || !tree.hasStanding(standing) || !isYesOrNo(hook)) {
            return NONE;
        }
        if (!tree.isWithin(fruit, standing, tree.reach(now.helper, hook))) {
            return CANNOT;
        }
        return garden.pickSeconds(fruit, standing, hook, 0);
    }

    // ---- standings

    public int both(int one, int other) {
        if (!tree.hasStanding(one) || !tree.hasStanding(other) || one == other) {
            return NONE;
        }
        plan.look();
        int first = plan.wantedFrom(one);
        int second = plan.wantedFrom(other);
        tell(first & ~second, second & ~first);
        return first & second;
    }

    public int nearest(int fruit) {
        if (!tree.hasFruit(fruit)) {
            return NONE;
        }
        int best = CANNOT;
        int least = MOST_LEAN + 1;
        for (int s = 0; s < tree.standings; s++) {
            int lean = tree.leanNeeded(fruit, s);
            if (lean >= 0 && lean < least) {
                best = s;
                least = lean;
            }
        }
        if (best >= 0) {
            tell(least);
        }
        return best;
    }

    public int fewest() {
        plan.look();
        return tellMembers(plan.smallestCover(plan.wanted, tree.allStandings()));
    }

    public int needed() {
        plan.look();
        int those = 0;
        int lone = 0;
        for (int s = 0; s < tree.standings; s++) {
            int others = tree.allStandings() & ~(1 << s);
            int only = plan.wanted & ~plan.reachedBy(others);
            if (only != 0) {
                those |= 1 << s;
                lone |= only;
            }
        }
        tell(lone);
        return those;
    }

    public int birds(int n) {
        if (n < 0 || n > MOST_STANDINGS) {
            return NONE;
        }
        plan.look();
        int best = 0;
        int least = plan.worthLeft(0);
        for (int set = 1; set <= tree.allStandings(); set++) {
            if (Integer.bitCount(set) <= n) {
                int left = plan.worthLeft(set);
                if (left < least || left == least && isFewer(set, best)) {
                    best = set;
                    least = left;
                }
            }
        }
        tell(best, plan.wanted & ~plan.reachedBy(best));
        return least;
    }

    public int next(int those) {
        if (!tree.areStandings(those)) {
            return NONE;
        }
        plan.look();
        int best = CANNOT;
        int least = 0;
        for (int s = 0; s < tree.standings; s++) {
            if ((those >> s & 1) == 0) {
                int left = plan.worthLeft(those | 1 << s);
                if (best < 0 || left < least) {
                    best = s;
                    least = left;
                }
            }
        }
        if (best >= 0) {
            tell(least, plan.worthLeft(those));
        }
        return best;
    }

    public int route(int those) {
        if (!tree.areStandings(those)) {
            return NONE;
        }
        told.clear();
        int left = garden.withoutLadder(those);
        int at = now.ladder;
        int all = tree.waySeconds(at, left);
        int rest = all;
        for (int turn = 0; turn < MOST_STANDINGS && left != 0; turn++) {
            int to = tree.firstOfWay(at, left, rest);
            if (to == NONE) {
                break;
            }
            told.add(to);
            rest -= tree.moveSeconds(at, to);
            left &= ~(1 << to);
            at = to;
        }
        return all;
    }

    public int work(int those) {
        if (!tree.areStandings(those)) {
            return NONE;
        }
        plan.look();
        plan.timeAll();
        int all = plan.workSeconds(those);
        tell(plan.moves, plan.picking, plan.downs);
        return all;
    }

    public int soonest() {
        plan.look();
        plan.timeAll();
        int best = tree.allStandings();
        int least = plan.workSeconds(best);
        for (int set = 0; set < tree.allStandings(); set++) {
            if ((plan.wanted & ~plan.reachedBy(set)) == 0) {
                int all = plan.workSeconds(set);
                if (all < least || all == least && isFewer(set, best)) {
                    best = set;
                    least = all;
                }
            }
        }
        tell(best);
        return least;
    }

    public int pays(int standing) {
        if (!tree.hasStanding(standing)) {
            return NONE;
        }
        plan.look();
        int those = plan.wantedFrom(standing);
        int move = now.ladder == standing ? 0 : tree.moveSeconds(now.ladder, standing);
        int picking = 0;
        for (int f = 0; f < tree.fruits; f++) {
            if ((those >> f & 1) != 0) {
                picking += garden.pickSeconds(f, standing, 0, 0);
            }
        }
        tell(move, picking, tree.downsSeconds(standing, Integer.bitCount(those)));
        return garden.worthOf(those);
    }

    public int trips(int standing) {
        if (!tree.hasStanding(standing)) {
            return NONE;
        }
        plan.look();
        int full = now.ladder == standing ? Integer.bitCount(now.apron) : 0;
        int often = 0;
        int many = Integer.bitCount(plan.wantedFrom(standing));
        for (int i = 0; i < many; i++) {
            if (full >= tree.settings[ROOM]) {
                often++;
                full = 0;
            }
            full++;
        }
        tell(full);
        return often;
    }

    public int helps() {
        plan.lookAs(0, now.today);
        int without = plan.wanted;
        int fewestWithout = plan.smallestCover(without, tree.allStandings());
        plan.lookAs(1, now.today);
        int fewestWith = plan.smallestCover(plan.wanted, tree.allStandings());
        tell(Integer.bitCount(without), Integer.bitCount(plan.wanted));
        return Integer.bitCount(fewestWithout) - Integer.bitCount(fewestWith);
    }

    public int hooked() {
        plan.look();
        int ready = garden.hanging() & tree.ripeBy(now.today) & ~plan.wanted;
        int all = 0;
        int best = NONE;
        int most = 0;
        for (int s = 0; s < tree.standings; s++) {
            int those = ready & tree.within(s, tree.reach(now.helper, 1));
            all |= those;
            if (Integer.bitCount(those) > most) {
                best = s;
                most = Integer.bitCount(those);
            }
        }
        tell(best, most);
        return all;
    }

    public int broken(int standing) {
        if (!tree.hasStanding(standing)) {
            return NONE;
        }
        plan.look();
        int others = tree.allStandings() & ~(1 << standing);
        int lost = plan.wanted & ~plan.reachedBy(others);
        tell(lost);
        return Integer.bitCount(plan.smallestCover(plan.wanted & ~lost, others));
    }

    public int sweep(int v) {
        if (v < 0 || v > MOST_CLOCK) {
            return NONE;
        }
        plan.look();
        plan.timeAll();
        int best = 0;
        int most = 0;
        int least = 0;
        for (int set = 1; set <= tree.allStandings(); set++) {
            int worth = garden.worthOf(plan.wanted & plan.reachedBy(set));
            if (worth >= most) {
                int all = plan.workSeconds(set);
                if (all <= v && (worth > most || all < least)) {
                    best = set;
                    most = worth;
                    least = all;
                }
            }
        }
        tell(best, least);
        return most;
    }

    // ---- from where the ladder is

    public int dusk(int v) {
        if (v < 0 || v > MOST_DUSK) {
            return NONE;
        }
        if (now.ladder == NONE) {
            return CANNOT;
        }
        plan.fillDusk(v);
        int most = 0;
        int bits = 0;
        int least = 0;
        for (int t = 1; t <= v; t++) {
            int worth = plan.duskWorth(t);
            if (worth > most) {
                most = worth;
                bits = plan.duskFruits(t);
                least = t;
            }
        }
        tell(bits, least);
        return most;
    }

    public int gentle() {
        if (now.ladder == NONE) {
            return CANNOT;
        }
        told.clear();
        int hanging = garden.hanging();
        int free = garden.readyHere();
        for (int turn = 0; turn < MOST_FRUITS; turn++) {
            int fruit = tree.firstUncovering(free & hanging, hanging);
            if (fruit == NONE) {
                break;
            }
            told.add(fruit);
            hanging &= ~(1 << fruit);
        }
        return told.size;
    }

    public int harm() {
        if (now.ladder == NONE) {
            return CANNOT;
        }
        int hanging = garden.hanging();
        int those = garden.readyHere();
        int hit = 0;
        for (int f = 0; f < tree.fruits; f++) {
            if ((those >> f & 1) != 0) {
                hit |= tree.lowerThan(f, hanging);
                hanging &= ~(1 << f);
            }
        }
        tell(garden.worthOf(hit) - tree.worthOf(hit, now.bruised | hit));
        return hit;
    }

    // ---- two ladders, days

    public int share(int those) {
        if (!tree.areStandings(those)) {
            return NONE;
        }
        plan.look();
        plan.loadFirsts(those);
        int all = plan.loadOf(those);
        int best = 0;
        int least = all;
        for (int set = 1; set <= those; set++) {
            if ((set & ~those) == 0) {
                int one = plan.loadOf(set);
                int longer = Math.max(one, all - one);
                if (longer < least) {
                    best = set;
                    least = longer;
                }
            }
        }
        tell(best, all - plan.loadOf(best));
        return least;
    }

    public int ripens() {
        int best = now.today;
        int most = 0;
        for (int day = now.today; day <= LAST_DAY; day++) {
            int many = Integer.bitCount(garden.ripeFirst(day));
            if (many > most) {
                best = day;
                most = many;
            }
        }
        plan.lookAs(now.helper, LAST_DAY);
        tell(best, Integer.bitCount(plan.smallestCover(plan.wanted, tree.allStandings())));
        return most;
    }

    public int ondays(int day) {
        if (day < now.today || day > LAST_DAY) {
            return NONE;
        }
        plan.look();
        int those = garden.ripeFirst(day) & plan.reachedBy(tree.allStandings());
        return tellMembers(plan.smallestCover(those, tree.allStandings()));
    }

    public int allripe() {
        int hanging = garden.hanging();
        int unripe = hanging & ~tree.ripeBy(now.today);
        int first = now.today;
        while (first < LAST_DAY && (hanging & ~tree.ripeBy(first)) != 0) {
            first++;
        }
        tell(Integer.bitCount(unripe), garden.worthOf(unripe));
        return first;
    }

    // ---- grass

    public int marks(int v, int e) {
        if (v < 0 || v > 99 || e < 0 || e > 99) {
            return NONE;
        }
        return tree.standingsAt(v, e);
    }

    public int grass(int e) {
        int answer = OUT_OF_ORDER;
        if (e >= 0 && e <= 99) {
            text.open(Text.MOST);
            if (grassMarks.readAll(text)) {
                answer = grassMarks.countRows(tree, e);
                tellLeastMarks(answer);
            } else {
                answer = text.wrong();
            }
        }
        text.clear();
        return answer;
    }

    public int fits(int fruits) {
        if ((fruits & ~tree.allFruits()) != 0) {
            return NONE;
        }
        plan.look();
        int many = 0;
        int smallest = NONE;
        int greatest = NONE;
        for (int set = 0; set <= tree.allStandings(); set++) {
            if (plan.isFitting(set, fruits)) {
                many++;
                if (smallest == NONE || Integer.bitCount(set) < Integer.bitCount(smallest)) {
                    smallest = set;
                }
                if (greatest == NONE || Integer.bitCount(set) > Integer.bitCount(greatest)) {
                    greatest = set;
                }
            }
        }
        tell(smallest, greatest);
        return many;
    }

    public int leaned(int fruit, int standing) {
        if (!tree.hasFruit(fruit) || !tree.hasStanding(standing)) {
            return NONE;
        }
        return tree.leanNeeded(fruit, standing);
    }

    private void tellLeastMarks(int many) {
        told.clear();
        if (many == 0) {
            return;
        }
        int last = NONE;
        for (int mark = 0; mark < grassMarks.many; mark++) {
            last = grassMarks.firstFor(mark, last);
            told.add(last);
        }
    }

    // ---- autumns

    public int autumn(int seed, int n, int p) {
        if (n < 1 || n > 30 || p < 0 || p > 10) {
            return NONE;
        }
        int r = seed;
        int hanging = garden.hanging();
        int fallen = 0;
        int most = 0;
        int when = NONE;
        for (int k = 1; k <= n; k++) {
            int ready = hanging & ~fallen & tree.ripeBy(Math.min(LAST_DAY, now.today + k));
            int many = 0;
            for (int f = 0; f < tree.fruits; f++) {
                if ((ready >> f & 1) != 0) {
                    r = r * 1103515245 + 12345;
                    if ((r >>> 16) % 10 < p) {
                        fallen |= 1 << f;
                        many++;
                    }
                }
            }
            if (many > most) {
                most = many;
                when = k;
            }
        }
        tell(fallen, garden.worthOf(fallen), when);
        return Integer.bitCount(fallen);
    }

    // ---- kept

    public boolean keep(int i) {
        return past.store(i, now);
    }

    public boolean again(int i) {
        return past.fetch(i, now);
    }

    public int count(int what) {
        switch (what) {
            case 0:
                return tree.fruits;
            case 1:
                return tree.standings;
            case 2:
                return now.ladder;
            case 3:
                return now.today;
            case 4:
                return now.clock;
            case 5:
                return garden.hanging();
            case 6:
                return now.apron;
            case 7:
                return now.basket;
            case 8:
                return now.ground;
            case 9:
                return now.bruised;
            case 10:
                return garden.worthOf(now.basket);
            case 11:
                return past.undoable;
            case 12:
                return told.size;
            case 13:
                return text.length;
            default:
                return OUT_OF_ORDER;
        }
    }

    public int row(int i) throws NoSuchElementException {
        if (i < 0 || i >= told.size) {
            throw new NoSuchElementException();
        }
        return told.numbers[i];
    }

    private void tell(int first) {
        told.clear();
        told.add(first);
    }

    private void tell(int first, int second) {
        tell(first);
        told.add(second);
    }

    private void tell(int first, int second, int third) {
        tell(first, second);
        told.add(third);
    }

    private int tellMembers(int set) {
        told.clear();
        for (int i = 0; i < MOST_STANDINGS; i++) {
            if ((set >> i & 1) != 0) {
                told.add(i);
            }
        }
        return told.size;
    }

    private static boolean isYesOrNo(int v) {
        return v == 0 || v == 1;
    }

    private static boolean isFewer(int one, int other) {
        int many = Integer.bitCount(one) - Integer.bitCount(other);
        return many < 0 || many == 0 && one < other;
    }

    /** THE TEXT. Where a reader can't go on, it leaves the place standing at the sign that is wrong. */
    private static final class Text {
        static final int MOST = 80;

        final char[] signs = new char[MOST];
        int length;
        int place;
        int stop;

        int add(int v) {
            if (length > MOST - 4) {
                return NONE;
            }
            for (int shift = 24; shift >= 0; shift -= 8) {
                signs[length] = (char) (v >>> shift & 255);
                length++;
            }
            return length;
        }

        boolean cut(int n) {
            if (n < 0 || n > length) {
                return false;
            }
            length = n;
            return true;
        }

        void open(int most) {
            place = 0;
            stop = Math.min(length, most);
        }

        int here() {
            return place < stop ? signs[place] : NONE;
        }

        void skip() {
            if (place < stop) {
                place++;
            }
        }

        boolean take(char sign) {
            if (here() != sign) {
                return false;
            }
            place++;
            return true;
        }

        int digitHere() {
            int sign = place < stop ? signs[place] : NONE;
            return sign >= '0' && sign <= '9' ? sign - '0' : NONE;
        }

        int readNumber(int digits) {
            int value = digitHere();
            if (value == NONE) {
                return NONE;
            }
            skip();
            for (int i = 1; i < digits; i++) {
                int digit = digitHere();
                if (digit == NONE) {
                    break;
                }
                value = value * 10 + digit;
                skip();
            }
            return value;
        }

        /** Signs beyond the most that were allowed to be read are never reached, so they make this false. */
        boolean isThrough() {
            return place == length;
        }

        int wrong() {
            return -1 - place;
        }

        void clear() {
            length = 0;
        }
    }

    /** FRUITS and STANDINGS as they were told, and what was set: all that does not change by work. */
    private static final class Orchard {
        final int[] x = new int[MOST_FRUITS];
        final int[] height = new int[MOST_FRUITS];
        final int[] worth = new int[MOST_FRUITS];
        final int[] ripe = new int[MOST_FRUITS];
        final int[] foot = new int[MOST_STANDINGS];
        final int[] fork = new int[MOST_STANDINGS];
        final int[] settings = {8, 3, 5, 1, 6};
        int fruits;
        int standings;
        int comingFruits;
        int comingStandings;

        boolean hasFruit(int f) {
            return f >= 0 && f < fruits;
        }

        boolean hasStanding(int s) {
            return s >= 0 && s < standings;
        }

        int allFruits() {
            return (1 << fruits) - 1;
        }

        int allStandings() {
            return (1 << standings) - 1;
        }

        boolean areStandings(int those) {
            return (those & ~allStandings()) == 0;
        }

        /** What is read stands behind what there is, and counts only from takeLines() on. */
        int readLines(Text text) {
            comingFruits = fruits;
            comingStandings = standings;
            for (int lines = 1; lines <= ORCHARD_SIGNS; lines++) {
                if (!readLine(text)) {
                    return NONE;
                }
                if (!text.take(';')) {
                    return lines;
                }
            }
            return NONE;
        }

        void takeLines() {
            fruits = comingFruits;
            standings = comingStandings;
        }

        boolean readLine(Text text) {
            if (text.here() == 'f' && comingFruits < MOST_FRUITS) {
                text.skip();
                return readFruit(text);
            }
            if (text.here() == 's' && comingStandings < MOST_STANDINGS) {
                text.skip();
                return readStanding(text);
            }
            return false;
        }

        boolean readFruit(Text text) {
            int f = comingFruits;
            if (!readPair(text, x, height, f)) {
                return false;
            }
            worth[f] = text.take('*') ? text.readNumber(1) : 1;
            if (worth[f] == NONE) {
                return false;
            }
            ripe[f] = text.take('@') ? text.readNumber(1) : 0;
            if (ripe[f] == NONE) {
                return false;
            }
            comingFruits++;
            return true;
        }

        boolean readStanding(Text text) {
            if (!readPair(text, foot, fork, comingStandings)) {
                return false;
            }
            comingStandings++;
            return true;
        }

        static boolean readPair(Text text, int[] ones, int[] others, int i) {
            int one = text.readNumber(2);
            if (one == NONE || !text.take(',')) {
                return false;
            }
            int other = text.readNumber(2);
            if (other == NONE || i < 0 || i >= ones.length || i >= others.length) {
                return false;
            }
            ones[i] = one;
            others[i] = other;
            return true;
        }

        int fillWorths(int kind, int n, int first, int step) {
            int sum = 0;
            int entry = first;
            for (int f = 0; f < fruits; f++) {
                int value = kind == 0 ? (byte) entry : kind == 1 ? (short) entry : entry;
                worth[f] = f < n ? Math.max(0, Math.min(9, value)) : 0;
                sum += worth[f];
                entry += step;
            }
            return sum;
        }

        int worthOf(int those, int bruised) {
            int sum = 0;
            for (int f = 0; f < fruits; f++) {
                if ((those >> f & 1) != 0) {
                    sum += (bruised >> f & 1) != 0 ? worth[f] / 2 : worth[f];
                }
            }
            return sum;
        }

        int ripeBy(int day) {
            int those = 0;
            for (int f = 0; f < fruits; f++) {
                if (ripe[f] <= day) {
                    those |= 1 << f;
                }
            }
            return those;
        }

        int lowerThan(int fruit, int hanging) {
            if ((hanging >> fruit & 1) == 0) {
                return 0;
            }
            int those = 0;
            for (int f = 0; f < fruits; f++) {
                boolean under = Math.abs(x[f] - x[fruit]) <= 1 && height[f] < height[fruit];
                if (under && (hanging >> f & 1) != 0) {
                    those |= 1 << f;
                }
            }
            return those;
        }

        int firstUncovering(int those, int hanging) {
            for (int f = 0; f < fruits; f++) {
                if ((those >> f & 1) != 0 && lowerThan(f, hanging) == 0) {
                    return f;
                }
            }
            return NONE;
        }

        int reach(int helper, int hook) {
            return settings[ARM] + helper * settings[LEAN] + hook * settings[HOOK];
        }

        int aside(int f, int s) {
            return x[f] > foot[s] ? x[f] - foot[s] : foot[s] - x[f];
        }

        int above(int f, int s) {
            return height[f] > fork[s] ? height[f] - fork[s] : 0;
        }

        boolean isWithin(int f, int s, int reach) {
            int aside = aside(f, s);
            int above = above(f, s);
            return aside * aside + above * above <= reach * reach;
        }

        int within(int s, int reach) {
            int those = 0;
            for (int f = 0; f < fruits; f++) {
                if (isWithin(f, s, reach)) {
                    those |= 1 << f;
                }
            }
            return those;
        }

        int leanNeeded(int f, int s) {
            for (int lean = 0; lean <= MOST_LEAN; lean++) {
                if (isWithin(f, s, settings[ARM] + lean)) {
                    return lean;
                }
            }
            return CANNOT;
        }

        int downSeconds(int s) {
            return 3 + (fork[s] + 9) / 10;
        }

        int downsSeconds(int s, int many) {
            int room = Math.max(1, settings[ROOM]);
            return (many + room - 1) / room * downSeconds(s);
        }

        int moveSeconds(int from, int to) {
            return from == NONE ? 9 : 9 + settings[MOVING] * Math.abs(foot[from] - foot[to]);
        }

        /** All feet stand on one line, so the shortest way goes to one end first and then to the other. */
        int waySeconds(int from, int those) {
            int many = Integer.bitCount(those);
            if (many == 0) {
                return 0;
            }
            int low = 99;
            int high = 0;
            for (int s = 0; s < standings; s++) {
                if ((those >> s & 1) != 0) {
                    low = Math.min(low, foot[s]);
                    high = Math.max(high, foot[s]);
                }
            }
            int far = high - low;
            if (from != NONE) {
                far += Math.min(Math.abs(foot[from] - low), Math.abs(foot[from] - high));
            }
            return 9 * many + settings[MOVING] * far;
        }

        int firstOfWay(int from, int those, int seconds) {
            for (int s = 0; s < standings; s++) {
                if ((those >> s & 1) != 0
                        && moveSeconds(from, s) + waySeconds(s, those & ~(1 << s)) == seconds) {
                    return s;
                }
            }
            return NONE;
        }

        int standingsAt(int v, int off) {
            int those = 0;
            for (int s = 0; s < standings; s++) {
                if (Math.abs(foot[s] - v) <= off) {
                    those |= 1 << s;
                }
            }
            return those;
        }
    }

    /** All that work changes, and that undo() and again() bring back. */
    private static final class Moment {
        static final int SIZE = 8;

        int apron;
        int basket;
        int ground;
        int bruised;
        int ladder = NONE;
        int helper;
        int today;
        int clock;

        int whereIs(int f) {
            return (apron >> f & 1) + 2 * (basket >> f & 1) + 3 * (ground >> f & 1);
        }

        void spend(int seconds) {
            clock = Math.min(MOST_CLOCK, clock + seconds);
        }

        void emptyApron() {
            basket |= apron;
            apron = 0;
        }

        void write(int[] cells, int start) {
            if (start < 0 || start > cells.length - SIZE) {
                return;
            }
            cells[start] = apron;
            cells[start + 1] = basket;
            cells[start + 2] = ground;
            cells[start + 3] = bruised;
            cells[start + 4] = ladder;
            cells[start + 5] = helper;
            cells[start + 6] = today;
            cells[start + 7] = clock;
        }

        void read(int[] cells, int start) {
            if (start < 0 || start > cells.length - SIZE) {
                return;
            }
            apron = cells[start];
            basket = cells[start + 1];
            ground = cells[start + 2];
            bruised = cells[start + 3];
            ladder = cells[start + 4];
            helper = cells[start + 5];
            today = cells[start + 6];
            clock = cells[start + 7];
        }
    }

    /**
     * What undo() and again() go back to. One place more than can be undone, so that a moment can be
     * noted ahead of a call before it is known whether the call is done.
     */
    private static final class Past {
        static final int MOST = 12;
        static final int PLACES = MOST + 1;
        static final int KEPT = 2;

        final int[] cells = new int[PLACES * Moment.SIZE];
        final int[] keptCells = new int[KEPT * Moment.SIZE];
        final boolean[] isKept = new boolean[KEPT];
        int undoable;
        int free;

        void note(Moment now) {
            now.write(cells, free * Moment.SIZE);
        }

        void hold() {
            free = (free + 1) % PLACES;
            undoable = Math.min(MOST, undoable + 1);
        }

        void goBack(Moment now) {
            free = (free + PLACES - 1) % PLACES;
            undoable--;
            now.read(cells, free * Moment.SIZE);
        }

        boolean store(int i, Moment now) {
            if (i < 0 || i >= KEPT) {
                return false;
            }
            now.write(keptCells, i * Moment.SIZE);
            isKept[i] = true;
            return true;
        }

        boolean fetch(int i, Moment now) {
            if (i < 0 || i >= KEPT || !isKept[i]) {
                return false;
            }
            now.read(keptCells, i * Moment.SIZE);
            undoable = 0;
            return true;
        }

        void forgetAll() {
            undoable = 0;
            for (int i = 0; i < KEPT; i++) {
                isKept[i] = false;
            }
        }
    }

    private static final class Row {
        final int[] numbers = new int[MOST_FRUITS];
        int size;

        void clear() {
            size = 0;
        }

        void add(int number) {
            if (size < numbers.length) {
                numbers[size] = number;
                size++;
            }
        }
    }

    /** THE RULE, kept with each operator behind what it works on: reckoned often, read once. */
    private static final class Rule {
        static final String LETTERS = "duywsko";
        static final int LETTER = 1000;
        static final int OPERATOR = 2000;
        /** Beyond all signs, so that no text can hold it. */
        static final int NEGATE = 256;
        static final int MOST_OPEN = 4;

        final int[] given = new int[LETTERS.length()];
        final int[] waiting = new int[RULE_SIGNS];
        final int[] stack = new int[RULE_SIGNS];
        int[] program = new int[RULE_SIGNS];
        int[] draft = new int[RULE_SIGNS];
        int length;
        int drafted;
        int waits;
        int open;
        int compared;
        boolean wantsThing;

        void drop() {
            length = 0;
        }

        boolean read(Text text) {
            drafted = 0;
            waits = 0;
            open = 0;
            compared = 0;
            wantsThing = true;
            for (int i = 0; i < RULE_SIGNS && text.here() != NONE; i++) {
                if (!(wantsThing ? readThing(text) : readBehindThing(text))) {
                    return false;
                }
            }
            if (wantsThing || open > 0 || !text.isThrough()) {
                return false;
            }
            settle(1);
            int[] before = program;
            program = draft;
            draft = before;
            length = drafted;
            return true;
        }

        boolean readThing(Text text) {
            int sign = text.here();
            if (sign == '-') {
                hold(NEGATE);
            } else if (sign == '(') {
                if (open >= MOST_OPEN) {
                    return false;
                }
                open++;
                compared &= ~(1 << open);
                hold(sign);
            } else {
                return readPlainThing(text);
            }
            text.skip();
            return true;
        }

        boolean readPlainThing(Text text) {
            int number = text.readNumber(3);
            if (number == NONE) {
                int letter = LETTERS.indexOf((char) text.here());
                if (letter < 0) {
                    return false;
                }
                number = LETTER + letter;
                text.skip();
            }
            emit(number);
            wantsThing = false;
            return true;
        }

        boolean readBehindThing(Text text) {
            int sign = text.here();
            if (sign == ')') {
                if (open == 0) {
                    return false;
                }
                settle(1);
                waits = Math.max(0, waits - 1);
                open--;
                text.skip();
                return true;
            }
            int strength = strength(sign);
            if (strength == 0 || strength == 1 && (compared >> open & 1) != 0) {
                return false;
            }
            if (strength == 1) {
                compared |= 1 << open;
            }
            settle(strength);
            hold(sign);
            wantsThing = true;
            text.skip();
            return true;
        }

        static int strength(int sign) {
            switch (sign) {
                case '<':
                case '>':
                case '=':
                    return 1;
                case '+':
                case '-':
                    return 2;
                case '*':
                case '/':
                    return 3;
                case NEGATE:
                    return 4;
                default:
                    return 0;
            }
        }

        void hold(int sign) {
            if (waits < waiting.length) {
                waiting[waits] = sign;
                waits++;
            }
        }

        void emit(int code) {
            if (drafted < draft.length) {
                draft[drafted] = code;
                drafted++;
            }
        }

        /** An open bracket has no strength, so that nothing ahead of it is settled before it is closed. */
        void settle(int strength) {
            while (waits > 0 && strength(waiting[waits - 1]) >= strength) {
                waits--;
                emit(OPERATOR + waiting[waits]);
            }
        }

        int reckon() {
            int top = 0;
            for (int i = 0; i < length && i < program.length; i++) {
                int code = program[i];
                if (code < OPERATOR) {
                    if (top < stack.length) {
                        stack[top] = meant(code);
                        top++;
                    }
                } else if (code == OPERATOR + NEGATE) {
                    if (top > 0) {
                        stack[top - 1] = -stack[top - 1];
                    }
                } else if (top > 1) {
                    top--;
                    stack[top - 1] = join(code - OPERATOR, stack[top - 1], stack[top]);
                }
            }
            return top > 0 ? stack[top - 1] : 0;
        }

        /** A NUMBER means itself, as it is less than any letter's code. */
        int meant(int code) {
            int letter = code - LETTER;
            return letter >= 0 && letter < given.length ? given[letter] : code;
        }

        static int join(int sign, int a, int b) {
            switch (sign) {
                case '<':
                    return a < b ? 1 : 0;
                case '>':
                    return a > b ? 1 : 0;
                case '=':
                    return a == b ? 1 : 0;
                case '+':
                    return a + b;
                case '-':
                    return a - b;
                case '*':
                    return a * b;
                default:
                    return b == 0 ? 0 : a / b;
            }
        }
    }

    /** The tree as it is now, and the work that is done at it. */
    private static final class Garden {
        final Orchard tree = new Orchard();
        final Moment now = new Moment();
        final Rule pace = new Rule();

        int hanging() {
            return tree.allFruits() & ~(now.apron | now.basket | now.ground);
        }

        int worthOf(int those) {
            return tree.worthOf(those, now.bruised);
        }

        /** Those that can be PICKED by hand from where the ladder is. */
        int readyHere() {
            if (now.ladder == NONE) {
                return 0;
            }
            int near = tree.within(now.ladder, tree.reach(now.helper, 0));
            return hanging() & tree.ripeBy(now.today) & near;
        }

        int ripeFirst(int day) {
            int those = hanging() & tree.ripeBy(day);
            return day > now.today ? those & ~tree.ripeBy(day - 1) : those;
        }

        int withoutLadder(int those) {
            return now.ladder == NONE ? those : those & ~(1 << now.ladder);
        }

        int pickSeconds(int f, int s, int hook, int inApron) {
            int[] given = pace.given;
            int aside = tree.aside(f, s);
            int above = tree.above(f, s);
            if (given.length >= 7) {
                given[0] = aside;
                given[1] = above;
                given[2] = tree.height[f];
                given[3] = worthOf(1 << f);
                given[4] = s;
                given[5] = inApron;
                given[6] = hook;
            }
            int value = pace.length == 0 ? 2 + aside / 4 + above / 2 : pace.reckon();
            return Math.max(1, Math.min(99, value));
        }

        int setLadder(int standing) {
            if (!tree.hasStanding(standing)) {
                return NONE;
            }
            if (standing == now.ladder) {
                return CANNOT;
            }
            int seconds = tree.moveSeconds(now.ladder, standing);
            if (now.apron != 0 && now.ladder != NONE) {
                seconds += tree.downSeconds(now.ladder);
            }
            now.emptyApron();
            now.ladder = standing;
            now.spend(seconds);
            return seconds;
        }

        int setHelper(int v) {
            if (!isYesOrNo(v)) {
                return NONE;
            }
            int before = now.helper;
            now.helper = v;
            return before;
        }

        int pickFruit(int fruit, int hook) {
            if (!tree.hasFruit(fruit) || !isYesOrNo(hook)) {
                return NONE;
            }
            int hanging = hanging();
            if ((hanging >> fruit & 1) == 0) {
                return CANNOT;
            }
            if (tree.ripe[fruit] > now.today) {
                return -3;
            }
            if (now.ladder == NONE
                    || !tree.isWithin(fruit, now.ladder, tree.reach(now.helper, hook))) {
                return -4;
            }
            int inApron = Integer.bitCount(now.apron);
            if (inApron >= tree.settings[ROOM]) {
                return -5;
            }
            int seconds = pickSeconds(fruit, now.ladder, hook, inApron);
            now.bruised |= tree.lowerThan(fruit, hanging);
            now.apron |= 1 << fruit;
            now.spend(seconds);
            return seconds;
        }

        int goDown() {
            if (now.ladder == NONE || now.apron == 0) {
                return CANNOT;
            }
            int many = Integer.bitCount(now.apron);
            now.emptyApron();
            now.spend(tree.downSeconds(now.ladder));
            return many;
        }

        int shakeTree() {
            if (now.ladder == NONE) {
                return CANNOT;
            }
            int hanging = hanging();
            int falling = readyHere();
            int hit = falling;
            for (int f = 0; f < tree.fruits; f++) {
                if ((falling >> f & 1) != 0) {
                    hit |= tree.lowerThan(f, hanging);
                }
            }
            now.ground |= falling;
            now.bruised |= hit;
            now.spend(5);
            return Integer.bitCount(falling);
        }

        int sleepOver() {
            if (now.today >= LAST_DAY) {
                return NONE;
            }
            now.today++;
            now.ladder = NONE;
            now.emptyApron();
            now.clock = 0;
            return now.today;
        }
    }

    /** What is thought of ahead of the work. look() or lookAs() comes first, then what it is asked. */
    private static final class Plan {
        static final int NOT_POSSIBLE = Integer.MIN_VALUE;

        final Garden garden = new Garden();
        final Orchard tree = garden.tree;
        final int[] near = new int[MOST_STANDINGS];
        final int[] seconds = new int[MOST_FRUITS * MOST_STANDINGS];
        final int[] many = new int[MOST_STANDINGS];
        final int[] load = new int[MOST_STANDINGS];
        final int[] best = new int[MOST_DUSK + 1];
        int wanted;
        int moves;
        int picking;
        int downs;

        void look() {
            lookAs(garden.now.helper, garden.now.today);
        }

        void lookAs(int helper, int day) {
            int reach = tree.reach(helper, 0);
            for (int s = 0; s < tree.standings; s++) {
                near[s] = tree.within(s, reach);
            }
            wanted = garden.hanging() & tree.ripeBy(day) & reachedBy(tree.allStandings());
        }

        int reachedBy(int set) {
            int those = 0;
            for (int s = 0; s < tree.standings; s++) {
                if ((set >> s & 1) != 0) {
                    those |= near[s];
                }
            }
            return those;
        }

        int wantedFrom(int s) {
            return wanted & near[s];
        }

        int worthLeft(int set) {
            return garden.worthOf(wanted & ~reachedBy(set));
        }

        /** All of the allowed together must reach the goal. */
        int smallestCover(int goal, int allowed) {
            int found = allowed;
            for (int set = 0; set < allowed; set++) {
                if ((set & ~allowed) == 0 && (goal & ~reachedBy(set)) == 0 && isEarlier(set, found)) {
                    found = set;
                }
            }
            return found;
        }

        /** Of rows that rise and are as long, the one that has the least unlike number is the least. */
        static boolean isEarlier(int one, int other) {
            int fewer = Integer.bitCount(one) - Integer.bitCount(other);
            int unlike = one ^ other;
            return fewer < 0 || fewer == 0 && (one & unlike & -unlike) != 0;
        }

        void timeAll() {
            for (int f = 0; f < tree.fruits; f++) {
                for (int s = 0; s < tree.standings; s++) {
                    if ((wantedFrom(s) >> f & 1) != 0) {
                        seconds[f * MOST_STANDINGS + s] = garden.pickSeconds(f, s, 0, 0);
                    }
                }
            }
        }

        int quickest(int f, int those) {
            int found = NONE;
            int least = 0;
            for (int s = 0; s < tree.standings; s++) {
                if ((those >> s & 1) != 0 && (near[s] >> f & 1) != 0) {
                    int time = seconds[f * MOST_STANDINGS + s];
                    if (found == NONE || time < least) {
                        found = s;
                        least = time;
                    }
                }
            }
            return found;
        }

        /** Needs timeAll(). */
        int workSeconds(int those) {
            for (int s = 0; s < MOST_STANDINGS; s++) {
                many[s] = 0;
            }
            picking = 0;
            for (int f = 0; f < tree.fruits; f++) {
                int s = (wanted >> f & 1) != 0 ? quickest(f, those) : NONE;
                if (s != NONE) {
                    picking += seconds[f * MOST_STANDINGS + s];
                    many[s]++;
                }
            }
            downs = 0;
            for (int s = 0; s < tree.standings; s++) {
                downs += tree.downsSeconds(s, many[s]);
            }
            moves = tree.waySeconds(garden.now.ladder, garden.withoutLadder(those));
            return moves + picking + downs;
        }

        void loadFirsts(int those) {
            int left = wanted;
            for (int s = 0; s < tree.standings; s++) {
                load[s] = 0;
                int mine = (those >> s & 1) != 0 ? left & near[s] : 0;
                for (int f = 0; f < tree.fruits; f++) {
                    if ((mine >> f & 1) != 0) {
                        load[s] += garden.pickSeconds(f, s, 0, 0);
                    }
                }
                left &= ~mine;
            }
        }

        int loadOf(int set) {
            int sum = 0;
            for (int s = 0; s < tree.standings; s++) {
                if ((set >> s & 1) != 0) {
                    sum += load[s];
                }
            }
            return sum;
        }

        boolean isFitting(int set, int fruits) {
            for (int s = 0; s < tree.standings; s++) {
                if ((set >> s & 1) != 0 && (near[s] & fruits) == 0) {
                    return false;
                }
            }
            return (fruits & ~reachedBy(set)) == 0;
        }

        /**
         * For each number of SECONDS that is filled just so: 65536 times the most WORTH, less the bits.
         * As both add up FRUIT by FRUIT, the greatest of these has the least bits of as good ones.
         */
        void fillDusk(int v) {
            int most = Math.min(v, MOST_DUSK);
            best[0] = 0;
            for (int t = 1; t <= most; t++) {
                best[t] = NOT_POSSIBLE;
            }
            int those = garden.readyHere();
            for (int f = 0; f < tree.fruits; f++) {
                if ((those >> f & 1) != 0) {
                    int bit = 1 << f;
                    int time = garden.pickSeconds(f, garden.now.ladder, 0, 0);
                    addToDusk(most, Math.max(1, time), (garden.worthOf(bit) << 16) - bit);
                }
            }
        }

        void addToDusk(int most, int time, int gain) {
            for (int t = most; t >= time; t--) {
                int before = best[t - time];
                if (before != NOT_POSSIBLE && before + gain > best[t]) {
                    best[t] = before + gain;
                }
            }
        }

        int duskWorth(int t) {
            return best[t] == NOT_POSSIBLE ? NONE : (best[t] + 65535) >> 16;
        }

        int duskFruits(int t) {
            return best[t] == NOT_POSSIBLE ? 0 : -best[t] & 65535;
        }
    }

    /** Marks in the grass, and how many rows of STANDINGS fit them from each mark on. */
    private static final class Marks {
        final int[] at = new int[MOST_MARKS];
        final int[] rows = new int[MOST_MARKS * MOST_STANDINGS];
        int many;

        boolean readAll(Text text) {
            for (many = 0; many < MOST_MARKS; many++) {
                int v = text.readNumber(2);
                if (v == NONE) {
                    return false;
                }
                at[many] = v;
                if (!text.take(',')) {
                    many++;
                    return text.isThrough();
                }
            }
            return false;
        }

        int countRows(Orchard tree, int off) {
            int sum = 0;
            for (int mark = many - 1; mark >= 0; mark--) {
                int those = tree.standingsAt(at[mark], off);
                int after = sum;
                sum = 0;
                for (int s = 0; s < MOST_STANDINGS; s++) {
                    int ways = 0;
                    if ((those >> s & 1) != 0) {
                        ways = mark == many - 1 ? 1 : after - rows[(mark + 1) * MOST_STANDINGS + s];
                    }
                    rows[mark * MOST_STANDINGS + s] = ways;
                    sum += ways;
                }
            }
            return sum;
        }

        int firstFor(int mark, int last) {
            for (int s = 0; s < MOST_STANDINGS; s++) {
                if (s != last && rows[mark * MOST_STANDINGS + s] > 0) {
                    return s;
                }
            }
            return NONE;
        }
    }
}
