/** Texts of hills and objects that stand on them. */
final class Hills {
    static final String CALM = "winds 0 0 0 0 0 0 0 0 0 0 0 0;";

    private Hills() {
    }

    static String winds(int w) {
        return "winds" + (" " + w).repeat(12) + ";";
    }

    static DeadAsked on(String text) {
        DeadAsked x = new DeadAsked();
        long graves = Check.read(x, text);
        if (graves < 0) {
            Check.due("hill of '" + text + "'", graves, 0);
        }
        return x;
    }
}
