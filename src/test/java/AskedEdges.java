/** Promises 24 to 29: kinds, asks of trees, the trace, counts and status. */
final class AskedEdges {
    private static final String CALM = Hills.CALM;
    private static final long NONE = DeadAsked.NONE;
    private static final String ASKS = "======== 4 ASKS of TREES, by BODIES, each of which leaves its number in THE"
            + " TRACE as it begins (the first 16):";
    // One tree of each sort but the first, which ONE_PEAR has.
    private static final String FOUR = Hills.winds(1) + "tree nut 4 2;tree oak 30 9;tree ash 7 0;tree fir 1 1;";
    private static final String ONE_PEAR = Hills.winds(1) + "tree fir 9 3;tree pear 30 9;";

    private AskedEdges() {
    }

    static void run() {
        kindsAreOfKinds();
        kindsAreTold();
        kindRefusesNumbers();
        treesAreTakenAsWhatTheyAre();
        asRefusesNumbers();
        asFindsAnotherKind();
        bodiesLeaveTheirNumbers();
        sizesOfLentAndPears();
        sizesOfOaks();
        sizesOfAshes();
        sizesOfFirs();
        marksOfLentAndPears();
        marksOfNuts();
        marksOfAshes();
        marksOfOaks();
        bodiesAreTheNearest();
        asksAreSizeOrMark();
        shapeRefusesNumbers();
        theTraceIsEmptyAhead();
        theTraceHasNumbers();
        countsAreTold();
        countRefusesNumbers();
        statusIsOfCallsWithARow();
        statusIsOfTheLatest();
    }

    private static void due(String what, long got, long want) {
        Sentences.due(what, got, want);
    }

    private static void shapeDue(String what, DeadAsked x, int tree, int ask, long want, int... bodies) {
        due(what, x.shape(tree, ask), want);
        for (int i = 0; i < bodies.length; i++) {
            due(what + ", trace " + i, x.trace(i), bodies[i]);
        }
        due(what + ", behind the trace", x.trace(bodies.length), NONE);
    }

    // ---- promises 24 and 25

    private static void kindsAreOfKinds() {
        Sentences.holds(25, "KINDS of TREES: 0 TREE; 1 PEAR, a TREE; 2 NUT, a PEAR; 3 OAK, a NUT; 4 ASH, a TREE; 5"
                + " FIR, an ASH.");
        String[] suits = {"111000", "111100", "100010", "100011"};
        DeadAsked x = Hills.on(FOUR);
        for (int tree = 0; tree < 4; tree++) {
            for (int kind = 0; kind <= 5; kind++) {
                boolean isSuch = suits[tree].charAt(kind) == '1';
                due("tree " + tree + " as " + kind, x.as(tree, kind), isSuch ? tree : Check.KIND);
            }
        }
        DeadAsked y = Hills.on(ONE_PEAR);
        for (int kind = 0; kind <= 5; kind++) {
            due("a pear as " + kind, y.as(1, kind), kind <= 1 ? 1 : Check.KIND);
        }
    }

    private static void kindsAreTold() {
        Sentences.holds(24, "The KIND of a TREE, as told (1 to 5).");
        DeadAsked x = Hills.on(FOUR);
        for (int tree = 0; tree < 4; tree++) {
            due("tree " + tree, x.kind(tree), tree + 2);
        }
        due("a pear", Hills.on(ONE_PEAR).kind(1), 1);
        x.as(3, 0);
        due("what it was taken as is nothing to it", x.kind(3), 5);
        due("one without fruit", x.kind(2), 4);
    }

    private static void kindRefusesNumbers() {
        Sentences.holds(24, "BAD.");
        DeadAsked x = Hills.on(FOUR);
        Sentences.ends("tree", 0, 3, v -> x.kind(v));
        due("no tree 2 of two", Hills.on(ONE_PEAR).kind(2), Check.BAD);
        due("without a hill", new DeadAsked().kind(0), Check.BAD);
        due("without trees", Hills.on(CALM).kind(0), Check.BAD);
    }

    private static void treesAreTakenAsWhatTheyAre() {
        Sentences.holds(25, "A TREE is taken as one of a KIND (0 .. 5): the TREE's number.");
        DeadAsked x = Hills.on(FOUR);
        for (int tree = 0; tree < 4; tree++) {
            due("as a tree " + tree, x.as(tree, 0), tree);
            due("as its own " + tree, x.as(tree, tree + 2), tree);
        }
    }

    private static void asRefusesNumbers() {
        Sentences.holds(25, "BAD;");
        DeadAsked x = Hills.on(FOUR);
        Sentences.ends("tree", 0, 3, v -> x.as(v, 0));
        Sentences.ends("kind", 0, 5, v -> x.as(3, v));
        due("without a hill", new DeadAsked().as(0, 0), Check.BAD);
        due("without trees", Hills.on(CALM).as(0, 0), Check.BAD);
    }

    private static void asFindsAnotherKind() {
        Sentences.holds(25, "KIND: it is no such one.");
        DeadAsked x = Hills.on(FOUR);
        due("a nut is no oak", x.as(0, 3), Check.KIND);
        due("an oak is no ash", x.as(1, 4), Check.KIND);
        due("an ash is no pear", x.as(2, 1), Check.KIND);
        due("a fir is no nut", x.as(3, 2), Check.KIND);
        due("an ash is no fir", x.as(2, 5), Check.KIND);
    }

    // ---- promise 26

    private static void bodiesLeaveTheirNumbers() {
        Sentences.holds(26, ASKS);
        DeadAsked x = Hills.on(FOUR);
        shapeDue("the most bodies", x, 1, 0, -(9 + 2 * (1 + 30 - 1000)), 12, 11, 10, 24, 22, 21, 20);
        shapeDue("the fewest", x, 3, 1, 3, 23, 20);
        shapeDue("as it begins, not as it ends", x, 0, 1, 4 - 1000, 22, 21, 20);
    }

    private static void sizesOfLentAndPears() {
        Sentences.holds(26, "0 SIZE: 10 lent to all TREES: FRUIT. 11 of PEARS: what 10 gives, and MARK.");
        shapeDue("a pear: FRUIT 9, number 1, X 30", Hills.on(ONE_PEAR), 1, 0, 9 + 1 + 30, 11, 10, 21, 20);
        DeadAsked x = Hills.on(ONE_PEAR);
        x.pick(1, 9);
        shapeDue("of what FRUIT is left", x, 1, 0, 1 + 30, 11, 10, 21, 20);
        shapeDue("a nut: FRUIT 2, and its own MARK", Hills.on(FOUR), 0, 0, 2 + 4 - 1000, 11, 10, 22, 21, 20);
    }

    private static void sizesOfOaks() {
        Sentences.holds(26, "12 of OAKS: 0 less what 11 gives.");
        shapeDue("an oak", Hills.on(FOUR), 1, 0, -9 - 2 * (31 - 1000), 12, 11, 10, 24, 22, 21, 20);
        DeadAsked x = Hills.on(CALM + "tree oak 0 0;");
        shapeDue("an oak of none, at 0", x, 0, 0, 2000, 12, 11, 10, 24, 22, 21, 20);
    }

    private static void sizesOfAshes() {
        Sentences.holds(26, "13 of ASHES: what 10 gives, less MARK.");
        shapeDue("an ash without fruit: less 2 and 30", Hills.on(FOUR), 2, 0, -32, 13, 10, 23, 20);
        shapeDue("an ash with 9, the first", Hills.on(CALM + "tree ash 30 9;"), 0, 0, 9 - 30, 13, 10, 23, 20);
    }

    private static void sizesOfFirs() {
        Sentences.holds(26, "14 of FIRS: twice what 13 gives (asked once).");
        shapeDue("a fir of 1, the last", Hills.on(FOUR), 3, 0, 2 * (1 - 3), 14, 13, 10, 23, 20);
        shapeDue("a fir of 3, the first", Hills.on(ONE_PEAR), 0, 0, 6, 14, 13, 10, 23, 20);
    }

    private static void marksOfLentAndPears() {
        Sentences.holds(26, "1 MARK: 20 lent to all TREES: its number. 21 of PEARS: what 20 gives, and X.");
        shapeDue("a pear", Hills.on(ONE_PEAR), 1, 1, 31, 21, 20);
        shapeDue("a pear at 0, the first", Hills.on(CALM + "tree pear 0 9;"), 0, 1, 0, 21, 20);
    }

    private static void marksOfNuts() {
        Sentences.holds(26, "22 of NUTS: what 21 gives, less 1000.");
        shapeDue("a nut", Hills.on(FOUR), 0, 1, -996, 22, 21, 20);
        shapeDue("a nut, the last, at 30", Hills.on(CALM + "tree fir 0 0;tree fir 1 0;tree fir 2 0;tree nut 30 0;"),
                3, 1, -967, 22, 21, 20);
    }

    private static void marksOfAshes() {
        Sentences.holds(26, "23 of ASHES: what 20 gives, and 10 times LOOSE.");
        shapeDue("an ash", Hills.on(FOUR), 2, 1, 32, 23, 20);
        shapeDue("a fir, of LOOSE 0", Hills.on(FOUR), 3, 1, 3, 23, 20);
    }

    private static void marksOfOaks() {
        Sentences.holds(26, "24 of OAKS: twice what 22 gives (asked once).");
        shapeDue("an oak", Hills.on(FOUR), 1, 1, 2 * (31 - 1000), 24, 22, 21, 20);
    }

    private static void bodiesAreTheNearest() {
        Sentences.holds(26, "(Of an ask the BODY told for the KIND begins, else that of the nearest KIND that it is,"
                + " too, else the one that is lent; SIZE, MARK within others are asked of the same TREE anew.)");
        DeadAsked x = Hills.on(FOUR);
        shapeDue("SIZE of a nut is that of a pear, its MARK its own", x, 0, 0, -994, 11, 10, 22, 21, 20);
        shapeDue("MARK of a fir is that of an ash", x, 3, 1, 3, 23, 20);
        shapeDue("SIZE of an oak asks MARK of an oak", x, 1, 0, 1929, 12, 11, 10, 24, 22, 21, 20);
        Sentences.holds(25, "By this it is asked.");
        x.as(1, 1);
        shapeDue("whatever it was taken as", x, 1, 1, -1938, 24, 22, 21, 20);
    }

    private static void asksAreSizeOrMark() {
        Sentences.holds(26, "An ASK (0 SIZE, 1 MARK) of a TREE.");
        DeadAsked x = Hills.on(ONE_PEAR);
        due("SIZE of the first", x.shape(0, 0), 6);
        due("MARK of the first", x.shape(0, 1), 0);
        due("SIZE of the last", x.shape(1, 0), 40);
        due("MARK of the last", x.shape(1, 1), 31);
        due("FRUIT stays", x.count(5), 12);
    }

    private static void shapeRefusesNumbers() {
        Sentences.holds(26, "BAD.");
        DeadAsked x = Hills.on(FOUR);
        Sentences.ends("tree", 0, 3, v -> x.shape(v, 0));
        Sentences.ends("what", 0, 1, v -> x.shape(3, v));
        due("without a hill", new DeadAsked().shape(0, 0), Check.BAD);
        due("without trees", Hills.on(CALM).shape(0, 0), Check.BAD);
    }

    private static void theTraceIsEmptyAhead() {
        Sentences.holds(26, "THE TRACE is empty ahead of it (where that is refused it stays).");
        DeadAsked x = Hills.on(FOUR);
        x.shape(1, 0);
        shapeDue("nothing of the ask before", x, 2, 1, 32, 23, 20);
        x.shape(4, 0);
        due("refused by its tree", x.trace(0), 23);
        x.shape(-1, 0);
        due("refused by its tree, too", x.trace(1), 20);
        x.shape(0, 2);
        due("refused by its ask", x.trace(0), 23);
        x.shape(1, -1);
        due("refused by its ask, too", x.trace(1), 20);
        due("still two", x.trace(2), NONE);
    }

    // ---- promise 27

    private static void theTraceHasNumbers() {
        Sentences.holds(27, "Number i of THE TRACE; NONE.");
        DeadAsked x = new DeadAsked();
        int[] places = {0, 1, 15, 16, -1, Integer.MIN_VALUE, Integer.MAX_VALUE};
        for (int i : places) {
            due("at first " + i, x.trace(i), -1000000);
        }
        Check.read(x, FOUR);
        x.shape(1, 0);
        int[] bodies = {12, 11, 10, 24, 22, 21, 20};
        for (int i = 0; i < 7; i++) {
            due("number " + i, x.trace(i), bodies[i]);
        }
        int[] others = {-1, 7, 8, 14, 15, 16, Integer.MIN_VALUE, Integer.MAX_VALUE};
        for (int i : others) {
            due("none " + i, x.trace(i), -1000000);
        }
    }

    // ---- promise 28

    private static void countsAreTold() {
        Sentences.holds(28, "How many: 0 ROWS that are not missing, 1 GRAVES, 2 HORNS that are not CRACKED, 3 TREES,"
                + " 4 ACTS that can be undone, 5 FRUIT in all, 6 bytes on the tape.");
        DeadAsked x = new DeadAsked();
        for (int what = 0; what <= 6; what++) {
            due("of a new object, " + what, x.count(what), 0);
        }
        for (int row = 0; row < 8; row++) {
            x.row(row, 0, row);
        }
        Check.read(x, CALM + "grave 0 0 0 0;".repeat(5) + "horn 0 1;".repeat(4)
                + "tree fir 0 9;tree fir 1 9;tree fir 2 9;tree fir 3 9;");
        long[] full = {8, 5, 4, 4, 0, 36, 0};
        for (int what = 0; what <= 6; what++) {
            due("of a full hill, " + what, x.count(what), full[what]);
        }
        x.drop(0);
        x.crack(3);
        x.pick(0, 9);
        for (int act = 0; act < 30; act++) {
            x.move(4, act);
        }
        Check.feedText(x, " ".repeat(400));
        x.feed(' ', 1);
        long[] used = {7, 5, 3, 4, 24, 27, 400};
        for (int what = 0; what <= 6; what++) {
            due("of a used hill, " + what, x.count(what), used[what]);
        }
    }

    private static void countRefusesNumbers() {
        Sentences.holds(28, "BAD.");
        DeadAsked x = Hills.on(FOUR);
        Sentences.ends("what", 0, 6, v -> x.count(v));
        Sentences.ends("what, without a hill", 0, 6, v -> new DeadAsked().count(v));
    }

    // ---- promise 29

    private static void statusIsOfCallsWithARow() {
        Sentences.holds(29, "Of the latest call with a ROW, or as(), that was not BAD, STATE, FULL: the number of its"
                + " FINDING;");
        DeadAsked x = new DeadAsked();
        x.row(0, 0, -1);
        x.council(0, 0, 0, 0, 1, 0);
        due("council: STATE leaves it", x.status(), 4);
        Check.read(x, FOUR);
        for (int k = 0; k < 50; k++) {
            x.feed(0, 8);
        }
        x.feed(0, 1);
        due("FULL leaves it", x.status(), 4);
        x.row(8, 0, 0);
        x.row(0, 0, 41);
        due("row: BAD leaves it", x.status(), 4);
        x.set(0, 0, 1);
        due("set: NULL", x.status(), 1);
        x.row(0, 0, 2);
        x.copy(0, 0, 0, 0, 3);
        due("copy: PLACE", x.status(), 2);
        x.set(-1, 0, 0);
        x.copy(0, 0, 8, 0, 0);
        x.drop(8);
        x.as(4, 0);
        x.as(0, 6);
        x.council(16, 0, 0, 0, 1, 0);
        x.council(0, 0, 0, 0, 1, 0);
        due("others: BAD leaves it, by an item, too", x.status(), 2);
        x.as(0, 5);
        due("as: KIND", x.status(), 3);
        x.row(1, 1, 1);
        x.copy(0, 0, 1, 0, 1);
        due("copy: STORE", x.status(), 5);
        x.drop(5);
        due("drop: NULL", x.status(), 1);
        x.council(0, 0, 0, 2, 1, 0);
        due("council: PLACE", x.status(), 2);
        x.council(0, 0, 5, 0, 1, 0);
        due("council: NULL", x.status(), 1);
        x.row(3, 0, Integer.MIN_VALUE);
        due("row: SIZE", x.status(), 4);
    }

    private static void statusIsOfTheLatest() {
        Sentences.holds(29, "0: it had none, or there was none.");
        due("there was none", new DeadAsked().status(), 0);
        DeadAsked x = Hills.on(FOUR);
        due("none with a row", x.status(), 0);
        x.drop(0);
        x.row(0, 0, 2);
        due("row", x.status(), 0);
        x.drop(1);
        x.set(0, 0, 15);
        due("set", x.status(), 0);
        x.drop(1);
        x.copy(0, 0, 0, 1, 1);
        due("copy", x.status(), 0);
        x.drop(1);
        x.council(0, 0, 0, 0, 2, 1);
        due("council", x.status(), 0);
        x.drop(1);
        x.as(0, 0);
        due("as", x.status(), 0);
        x.drop(1);
        x.drop(0);
        due("drop", x.status(), 0);
        x.drop(1);
        lookAround(x);
        due("calls without a row leave it", x.status(), 1);
    }

    private static void lookAround(DeadAsked x) {
        x.ask(1, 0, 0, 1);
        x.pick(0, 1);
        x.move(0, 0);
        x.crack(0);
        x.undo();
        x.grave(0, 0);
        x.tree(0, 0);
        x.minds(1, 1);
        x.odds(1, 1, 1, 1);
        x.how(1, 0, 0, 11);
        x.fell(1, 1, 1, 1, 1);
        x.picks(1, 1, 1, 1);
        x.image(0);
        x.restore(0);
        x.kind(0);
        x.shape(0, 0);
        x.trace(0);
        x.count(0);
        x.feed(' ', 1);
        x.hill();
        x.fault();
    }
}
