import java.nio.charset.StandardCharsets;

/** What the tests share: answers that are due, and texts fed to an object. */
final class Check {
    static final long BAD = DeadAsked.NOT - 1;
    static final long STATE = DeadAsked.NOT - 2;
    static final long FULL = DeadAsked.NOT - 3;
    static final long NULL = DeadAsked.NOT - 11;
    static final long PLACE = DeadAsked.NOT - 12;
    static final long KIND = DeadAsked.NOT - 13;
    static final long SIZE = DeadAsked.NOT - 14;
    static final long STORE = DeadAsked.NOT - 15;
    static final long NONE = DeadAsked.NONE;

    private static int wrong = 0;

    private Check() {
    }

    static void due(String what, long got, long want) {
        if (got != want) {
            wrong++;
            System.out.println(what + " answered " + got + ", due is " + want);
        }
    }

    static void fraction(String what, long above, long below, long wantAbove, long wantBelow) {
        due(what + " above", above, wantAbove);
        due(what + " below", below, wantBelow);
    }

    static void feedText(DeadAsked x, String text) {
        byte[] bytes = text.getBytes(StandardCharsets.ISO_8859_1);
        for (int from = 0; from < bytes.length; from += 8) {
            int n = Math.min(8, bytes.length - from);
            long w = 0;
            for (int k = 0; k < n; k++) {
                w = w << 8 | bytes[from + k] & 255;
            }
            x.feed(w, n);
        }
    }

    static long read(DeadAsked x, String text) {
        feedText(x, text);
        return x.hill();
    }

    static void end(String name) {
        System.out.println(name + (wrong == 0 ? ": all answers are as due" : ": " + wrong + " answers are not as due"));
        if (wrong != 0) {
            System.exit(1);
        }
    }
}
