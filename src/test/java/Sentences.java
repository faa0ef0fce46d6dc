import java.io.IOException;
import java.nio.file.Files;
import java.nio.file.Path;
import java.util.NoSuchElementException;
import java.util.function.ToIntFunction;

/**
 * Tests that quote the document, sentence by sentence. A quote must stand in the promise that it is said of, each
 * quote has checks of its own, and of each promise that a test names no word may be left without a quote.
 */
abstract class Sentences {
    static final int MISSING = Integer.MIN_VALUE;
    static final int LEAST = Integer.MIN_VALUE;
    static final int MOST = Integer.MAX_VALUE;
    static final String DIGITS = "0123456789";
    private static final Path DOCUMENT = Path.of("../shared/DOC.md");
    private static final int PROMISES = 52;

    WhereTheLadder x = new WhereTheLadder();
    /** Number 0 are the terms. */
    private final String[] texts = new String[PROMISES + 1];
    private final boolean[][] quoted = new boolean[PROMISES + 1][];
    private String sentence = "";
    private int checksOfSentence = 1;
    private int sentences = 0;
    private int checks = 0;
    private int wrong = 0;

    abstract void tests();

    final void judge(int first, int last) throws IOException {
        readDocument();
        tests();
        closeSentence();
        for (int promise = first; promise <= last; promise++) needAllQuoted(promise);
        System.out.println(sentences + " sentences with " + checks + " checks, " + wrong + " wrong");
        if (wrong != 0) System.exit(1);
    }

    private void readDocument() throws IOException {
        String all = Files.readString(DOCUMENT);
        String calls = all.substring(all.indexOf("An object is used"), all.indexOf("## The public face"));
        String terms = all.substring(all.indexOf("## Terms") + 8, all.indexOf("## Promise 1:"));
        String wanted = terms.substring(terms.indexOf("(WANTED:"), terms.indexOf("Ahead of the calls `dusk`"));
        put(0, calls + terms.substring(0, terms.indexOf("Ahead of the calls")).replace("```text", "").replace("```", "") + wanted);
        for (int promise = 1; promise <= PROMISES; promise++) {
            int from = all.indexOf("`: ", all.indexOf("## Promise " + promise + ":")) + 3;
            put(promise, all.substring(from, all.indexOf("## ", from)));
        }
    }

    private void put(int promise, String text) {
        texts[promise] = plain(text);
        quoted[promise] = new boolean[texts[promise].length()];
    }

    private static String plain(String text) {
        return text.replaceAll("\\s+", " ").strip();
    }

    private void fault(String what) {
        wrong++;
        System.out.println(sentence + ": " + what);
    }

    private void closeSentence() {
        if (checksOfSentence == 0) fault("no check of it");
    }

    private void needAllQuoted(int promise) {
        StringBuilder left = new StringBuilder();
        for (int i = 0; i < texts[promise].length(); i++) left.append(quoted[promise][i] ? '_' : texts[promise].charAt(i));
        String words = left.toString().replaceAll("_+", " ").replaceAll("[ .:;,()]+", " ").strip();
        sentence = promise == 0 ? "terms" : "promise " + promise;
        if (!words.isEmpty()) fault("no quote has: " + words);
    }

    /** A new sentence of a promise (0: of the terms), with a new object that was told of these orchards. */
    final void says(int promise, String quote, String... orchards) {
        closeSentence();
        sentence = (promise == 0 ? "terms" : "promise " + promise) + ": '" + quote + "'";
        sentences++;
        checksOfSentence = 0;
        String text = plain(quote);
        int at = texts[promise].indexOf(text);
        if (at < 0) fault("the document does not say it");
        for (; at >= 0; at = texts[promise].indexOf(text, at + 1)) {
            for (int i = 0; i < text.length(); i++) quoted[promise][at + i] = true;
        }
        fresh(orchards);
    }

    final void fresh(String... orchards) {
        x = new WhereTheLadder();
        for (String lines : orchards) {
            if (orchard(lines) != lines.split(";").length) fault("can't be told: " + lines);
        }
    }

    final void due(String what, long got, long want) {
        checks++;
        checksOfSentence++;
        if (got != want) fault(what + " answered " + told(got) + ", due is " + told(want));
    }

    private static String told(long answer) {
        return answer == MISSING ? "NoSuchElementException" : Long.toString(answer);
    }

    final void due(String what, boolean got, boolean want) {
        due(what, got ? 1 : 0, want ? 1 : 0);
    }

    final void due(String what, String got, String want) {
        checks++;
        checksOfSentence++;
        if (!got.equals(want)) fault(what + ": it is\n  " + got + ", due is\n  " + want);
    }

    final void dueRow(String what, int... want) {
        due(what + ": the row", theRow(), java.util.Arrays.toString(want));
    }

    final String theRow() {
        int[] numbers = new int[x.count(12)];
        for (int i = 0; i < numbers.length; i++) numbers[i] = row(i);
        return java.util.Arrays.toString(numbers);
    }

    final void type(String text) {
        x.end(0);
        for (int i = 0; i < text.length(); i += 4) {
            int v = 0;
            for (int k = 0; k < 4; k++) v = v << 8 | (i + k < text.length() ? text.charAt(i + k) : 0);
            x.sign(v);
        }
        x.end(text.length());
        if (x.count(13) != text.length()) fault("can't be typed: " + text);
    }

    final int orchard(String text) {
        type(text);
        return x.orchard();
    }

    final int rule(String text) {
        type(text);
        return x.rule();
    }

    final int day(String text) {
        type(text);
        return x.day();
    }

    final int grass(String text, int e) {
        type(text);
        return x.grass(e);
    }

    /** Of all 256 signs just these can stand behind a text: a reader refuses each other one at its place. */
    final void dueSigns(ToIntFunction<String> reader, String text, String signs) {
        for (char sign = 0; sign < 256; sign++) {
            fresh("f1,1;s1,1");
            int got = reader.applyAsInt(text + sign);
            boolean stands = got >= 0 || got == -2 - text.length();
            due("'" + text + "' and sign " + (int) sign + ": can it stand", stands, signs.indexOf(sign) >= 0);
            if (!stands) due("'" + text + "' and sign " + (int) sign, got, -1 - text.length());
        }
    }

    final int fruit(int fruit, int what) {
        try {
            return x.fruit(fruit, what);
        } catch (NoSuchElementException e) {
            return MISSING;
        }
    }

    final int standing(int standing, int what) {
        try {
            return x.standing(standing, what);
        } catch (NoSuchElementException e) {
            return MISSING;
        }
    }

    final int row(int i) {
        try {
            return x.row(i);
        } catch (NoSuchElementException e) {
            return MISSING;
        }
    }

    final void sleep(int days) {
        for (int i = 0; i < days; i++) x.sleep();
    }

    final int isFootTaken() {
        int was = x.foot(0);
        x.undo();
        return was;
    }

    /** All that can be seen but the ROW; to be asked while fewer than 12 can be undone, as it asks by undoing. */
    final String state() {
        StringBuilder all = new StringBuilder();
        for (int what = 0; what <= 13; what++) if (what != 12) all.append(x.count(what)).append(' ');
        for (int f = 0; f < x.count(0); f++) for (int what = 0; what <= 6; what++) all.append(what == 0 ? "| " : "").append(fruit(f, what)).append(' ');
        for (int s = 0; s < x.count(1); s++) for (int what = 0; what <= 2; what++) all.append(what == 0 ? "/ " : "").append(standing(s, what)).append(' ');
        for (int what = 0; what <= 4; what++) {
            int was = x.set(what, 1);
            x.set(what, was);
            all.append(what == 0 ? "set " : "").append(was).append(' ');
        }
        all.append("foot ").append(isFootTaken()).append(" seconds");
        for (int f = 0; f < x.count(0); f++) for (int s = 0; s < x.count(1); s++) all.append(' ').append(x.seconds(f, s, 1));
        return all.toString();
    }
}
