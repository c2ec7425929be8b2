import java.io.IOException;
import java.nio.file.Files;
import java.nio.file.Path;
import java.util.function.IntToLongFunction;
import java.util.regex.Matcher;
import java.util.regex.Pattern;

/** The sentences of the document, and which of them a test holds; each is quoted as it stands there. */
final class Sentences {
    private static final Path DOCUMENT = Path.of("../shared/DOC.md");
    private static final int PROMISES = 29;

    private static String text = "";
    private static boolean[] held = {};
    private static final boolean[] hasTest = new boolean[PROMISES + 1];
    private static String current = "";
    private static int tests;

    private Sentences() {
    }

    static void open() throws IOException {
        text = Files.readString(DOCUMENT);
        held = new boolean[text.length()];
    }

    /** What is due from here on is asked by this sentence, of the promise's own section or of the terms. */
    static void holds(int promise, String sentence) {
        current = "promise " + promise + ", \"" + sentence + "\": ";
        tests++;
        hasTest[promise] = true;
        int at = place(sentence, sectionStart(promise), sectionStart(promise + 1));
        if (at < 0) {
            at = place(sentence, 0, sectionStart(1));
        }
        due("stands in the document", at < 0 ? 0 : 1, 1);
        for (int k = 0; at >= 0 && k < sentence.length(); k++) {
            held[at + k] = true;
        }
    }

    static void due(String what, long got, long want) {
        Check.due(current + what, got, want);
    }

    static void fraction(String what, long above, long below, long wantAbove, long wantBelow) {
        Check.fraction(current + what, above, below, wantAbove, wantBelow);
    }

    /** Both ends are taken; what lies beyond them is BAD. */
    static void ends(String name, int least, int most, IntToLongFunction call) {
        taken(name, least, call);
        taken(name, most, call);
        int[] beyond = {least - 1, most + 1, Integer.MIN_VALUE, Integer.MAX_VALUE};
        for (int v : beyond) {
            due(name + " " + v, call.applyAsLong(v), Check.BAD);
        }
    }

    private static void taken(String name, int v, IntToLongFunction call) {
        due(name + " " + v + " is refused", call.applyAsLong(v) <= Check.BAD ? 1 : 0, 0);
    }

    /** Each promise has a test, and no sentence of the terms or the promises is without one. */
    static void end() {
        current = "";
        for (int promise = 1; promise <= PROMISES; promise++) {
            Check.due("tests of promise " + promise, hasTest[promise] ? 1 : 0, 1);
        }
        // Headings, the fences of texts, the calls themselves, and where the interface has its headings.
        String needsNone = "(?m)^(#.*|```.*|Ahead of the calls.*|`[^`]*`:|=+ \\d )";
        StringBuilder left = new StringBuilder(text);
        Matcher matcher = Pattern.compile(needsNone).matcher(text);
        while (matcher.find()) {
            blank(left, matcher.start(), matcher.end());
        }
        blank(left, 0, text.indexOf("An object is used"));
        blank(left, text.indexOf("## The public face"), text.indexOf("## Terms"));
        blank(left, text.indexOf("## Not promised"), text.length());
        for (int k = 0; k < held.length; k++) {
            if (held[k]) {
                blank(left, k, k + 1);
            }
        }
        Matcher rest = Pattern.compile("[^\\s]*\\w[^\\n]*?(?= {2}|\\n|$)").matcher(left);
        while (rest.find()) {
            Check.due("a sentence without a test: '" + rest.group().trim() + "'", 0, 1);
        }
        System.out.println(tests + " tests of sentences");
    }

    private static void blank(StringBuilder signs, int from, int to) {
        for (int k = from; k < to; k++) {
            if (signs.charAt(k) != '\n') {
                signs.setCharAt(k, ' ');
            }
        }
    }

    private static int sectionStart(int promise) {
        int at = text.indexOf(promise > PROMISES ? "## Not promised" : "## Promise " + promise + ": ");
        return at < 0 ? text.length() : at;
    }

    // A sentence may stand twice: first the one that no test holds yet.
    private static int place(String sentence, int from, int to) {
        int first = -1;
        for (int at = text.indexOf(sentence, from); at >= 0 && at + sentence.length() <= to;
                at = text.indexOf(sentence, at + 1)) {
            if (!held[at]) {
                return at;
            }
            first = first < 0 ? at : first;
        }
        return first;
    }
}
