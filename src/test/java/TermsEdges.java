import java.util.ArrayList;
import java.util.List;
import java.util.function.Supplier;
import java.util.function.ToLongFunction;

/** What the document says of all calls: numbers, fractions, sets, refusals and findings. */
final class TermsEdges {
    private static final String ORDER = "Refusals are answers, the first of these that fits, but as told: BAD (a"
            + " number is not as told; there is no such thing), STATE (as told), FULL (as told), then FINDINGS, of"
            + " several the first in time:";
    private static final String NOTHING = "What is refused, or found, changes nothing but status().";
    private static final String HILL = "winds 0 1 2 3 0 0 0 0 0 0 0 1;grave 5 0 4 1;grave 8 3 5 2;"
            + "grave 12 9 5 15;horn 5 10;horn 15 8;tree pear 4 2;tree ash 6 3;tree oak 10 3;";

    private TermsEdges() {
    }

    static void run() {
        aNewObjectHasNoHill();
        numbersGoFrom0();
        fractionsAreInLowestTerms();
        setsAreBits();
        badIsFirstOfRows();
        badIsFirstOfTheTape();
        badIsFirstOfActs();
        badIsFirstOfImages();
        badIsFirstOfKinds();
        stateIsFirstWhereTold();
        councilRefusesInOrder();
        findingsHaveNumbers();
        refusalsHaveNumbers();
        rowsStay();
        tapeStays();
        actsStay();
        foretoldStays();
        askedStays();
        withoutHillAllStays();
        fiveHundredAndTwelveCalls();
    }

    private static void due(String what, long got, long want) {
        Sentences.due(what, got, want);
    }

    private static void aNewObjectHasNoHill() {
        Sentences.holds(1, "No HILL.");
        DeadAsked x = new DeadAsked();
        due("ask", x.ask(1, 0, 0, 1), Check.STATE);
        due("minds", x.minds(1, 0), Check.STATE);
        due("odds", x.odds(1, 0, 0, 0), Check.STATE);
        due("how", x.how(1, 0, 0, 0), Check.STATE);
        due("fell", x.fell(1, 0, 0, 0, 0), Check.STATE);
        due("picks", x.picks(1, 0, 0, 0), Check.STATE);
        due("council", x.council(0, 0, 0, 0, 1, 0), Check.STATE);
        due("image", x.image(0), Check.STATE);
        due("restore", x.restore(0), Check.STATE);
        due("undo", x.undo(), Check.STATE);
        due("no tree", x.tree(0, 0), Check.BAD);
        due("no grave", x.grave(0, 0), Check.BAD);
        due("no horn", x.crack(0), Check.BAD);
        for (int what = 0; what <= 6; what++) {
            due("count " + what, x.count(what), 0);
        }
        Check.read(x, Hills.CALM);
        due("another object has none yet", new DeadAsked().minds(1, 0), Check.STATE);
    }

    private static void numbersGoFrom0() {
        Sentences.holds(15, "Numbers go from 0 on.");
        DeadAsked x = Hills.on("winds 1 0 0 0 0 0 0 0 0 0 0 0;grave 7 9 8 1;horn 7 9;tree nut 6 5;");
        due("the first tree", x.tree(0, 0), 6);
        due("no second tree", x.tree(1, 0), Check.BAD);
        due("none ahead of the first tree", x.tree(-1, 0), Check.BAD);
        due("the first grave", x.grave(0, 0), 7);
        due("no second grave", x.grave(1, 0), Check.BAD);
        due("the first horn is bit 0", x.grave(0, 5), 1);
        due("the first topic is bit 0", x.minds(1, 1), 1);
        due("the first hour blows", x.odds(1, 0, 0, 0), 9);
        due("no second horn", x.crack(1), Check.BAD);
        due("the first horn cracks", x.crack(0), 1);
    }

    private static void fractionsAreInLowestTerms() {
        Sentences.holds(17, "All that is divided is cut towards 0, but fractions, told as two numbers in lowest terms"
                + " (0 is 0 by 1).");
        DeadAsked x = Hills.on("winds 2 0 0 0 0 0 0 0 0 0 0 3;grave 7 9 5 1;grave 7 9 4 2;grave 7 9 0 4;horn 7 9;"
                + "tree pear 7 5;");
        Sentences.fraction("5 of 10", x.odds(1, 1, 1, 0), x.odds(1, 1, 1, 1), 1, 2);
        Sentences.fraction("6 of 10", x.odds(2, 1, 1, 0), x.odds(2, 1, 1, 1), 3, 5);
        Sentences.fraction("180 of 1000, not cut", x.odds(3, 1, 0, 0), x.odds(3, 1, 0, 1), 9, 50);
        Sentences.fraction("all is 1 by 1", x.odds(8, 1, 1, 0), x.odds(8, 1, 1, 1), 1, 1);
        Sentences.fraction("none is 0 by 1", x.fell(4, 1, 11, 0, 0), x.fell(4, 1, 11, 0, 1), 0, 1);
        Sentences.fraction("all that fell, 1 by 1", x.fell(1, 1, 1, 0, 0), x.fell(1, 1, 1, 0, 1), 1, 1);
    }

    private static void setsAreBits() {
        Sentences.holds(16, "Sets are bits.");
        DeadAsked x = Hills.on(Hills.CALM + "grave 0 9 1 1;grave 0 9 1 2;grave 0 9 1 4;grave 0 9 1 8;"
                + "grave 0 9 1 9;horn 0 9;horn 30 1;horn 0 9;horn 0 9;tree fir 0 1;");
        due("topic 0", x.minds(1, 1), 17);
        due("topic 3", x.minds(8, 1), 24);
        due("topics 1 and 2", x.minds(6, 1), 6);
        due("all topics", x.minds(15, 8), 31);
        due("horns 0, 2 and 3", x.grave(0, 5), 13);
        due("graves of a tree", x.tree(0, 3), 31);
    }

    // ---- the order of refusals

    private static void badIsFirstOfRows() {
        Sentences.holds(2, ORDER);
        DeadAsked x = new DeadAsked();
        due("BAD ahead of SIZE: row", x.row(8, 0, -1), Check.BAD);
        due("BAD ahead of SIZE: lane", x.row(0, 3, -1), Check.BAD);
        due("BAD ahead of PLACE: set", x.set(8, -1, 0), Check.BAD);
        due("BAD ahead of NULL: copy to none", x.copy(3, 0, 8, 0, 1), Check.BAD);
        due("BAD ahead of NULL: copy of none", x.copy(8, 0, 3, 0, 1), Check.BAD);
        due("NULL ahead of PLACE: set", x.set(3, -1, 0), Check.NULL);
        x.row(0, 0, 1);
        x.row(1, 1, 1);
        due("NULL ahead of PLACE: copy", x.copy(0, -1, 3, 0, 1), Check.NULL);
        due("NULL ahead of PLACE: copy of a missing one", x.copy(3, 0, 0, 9, -1), Check.NULL);
        due("STORE ahead of PLACE: i", x.copy(0, 9, 1, 0, 1), Check.STORE);
        due("STORE ahead of PLACE: j", x.copy(0, 0, 1, 9, 1), Check.STORE);
        due("STORE ahead of PLACE: n", x.copy(0, 0, 1, 0, -1), Check.STORE);
        due("STORE of no items", x.copy(0, 0, 1, 0, 0), Check.STORE);
    }

    private static void badIsFirstOfTheTape() {
        Sentences.holds(6, ORDER);
        DeadAsked x = new DeadAsked();
        for (int k = 0; k < 50; k++) {
            x.feed(0, 8);
        }
        due("FULL", x.feed(0, 1), Check.FULL);
        due("BAD ahead of FULL: 9", x.feed(0, 9), Check.BAD);
        due("BAD ahead of FULL: 0", x.feed(0, 0), Check.BAD);
    }

    private static void badIsFirstOfActs() {
        Sentences.holds(10, ORDER);
        DeadAsked x = Hills.on(Hills.CALM + "tree fir 0 0;");
        due("STATE", x.pick(0, 9), Check.STATE);
        due("BAD ahead of STATE: n", x.pick(0, 10), Check.BAD);
        due("BAD ahead of STATE: the tree", x.pick(1, 9), Check.BAD);
    }

    private static void badIsFirstOfImages() {
        Sentences.holds(22, ORDER);
        DeadAsked x = new DeadAsked();
        due("image: STATE", x.image(1), Check.STATE);
        due("image: BAD ahead of STATE", x.image(2), Check.BAD);
        due("restore: STATE", x.restore(1), Check.STATE);
        due("restore: BAD ahead of STATE", x.restore(-1), Check.BAD);
    }

    private static void badIsFirstOfKinds() {
        Sentences.holds(25, ORDER);
        DeadAsked x = Hills.on(Hills.CALM + "tree fir 0 0;");
        due("KIND", x.as(0, 1), Check.KIND);
        due("BAD ahead of KIND", x.as(1, 1), Check.BAD);
    }

    private static void stateIsFirstWhereTold() {
        Sentences.holds(9, ORDER);
        DeadAsked x = new DeadAsked();
        due("ask: STATE ahead of BAD, as told", x.ask(0, -1, 12, 0), Check.STATE);
        due("undo: STATE", x.undo(), Check.STATE);
        due("pick: BAD, as no STATE is told ahead of it", x.pick(0, 0), Check.BAD);
    }

    private static void councilRefusesInOrder() {
        Sentences.holds(21, ORDER);
        DeadAsked x = new DeadAsked();
        due("STATE ahead of BAD", x.council(16, 0, 0, 0, 1, 0), Check.STATE);
        due("STATE ahead of NULL", x.council(0, 0, 0, 0, 1, 0), Check.STATE);
        Check.read(x, Hills.CALM);
        due("BAD ahead of NULL", x.council(16, 0, 0, 0, 1, 0), Check.BAD);
        due("NULL ahead of PLACE", x.council(0, 0, 0, -1, 1, 0), Check.NULL);
        x.row(0, 0, 2);
        due("PLACE ahead of BAD by an item", x.council(0, 0, 0, 1, 2, 0), Check.PLACE);
        due("then BAD by an item", x.council(0, 0, 0, 0, 2, 0), Check.BAD);
    }

    // ---- the numbers of refusals

    private static void findingsHaveNumbers() {
        Sentences.holds(29, "NOT less 10 less 1 NULL (a ROW that is missing), 2 PLACE (no such place of a ROW), 3"
                + " KIND (a TREE that is not that), 4 SIZE (fewer than none), 5 STORE (ROWS of two LANES);");
        DeadAsked x = Hills.on(Hills.CALM + "tree ash 0 0;");
        due("NULL", x.drop(0), -9000000000000000011L);
        due("status of NULL", x.status(), 1);
        x.row(0, 0, 1);
        due("PLACE", x.set(0, 1, 0), -9000000000000000012L);
        due("status of PLACE", x.status(), 2);
        due("KIND", x.as(0, 5), -9000000000000000013L);
        due("status of KIND", x.status(), 3);
        due("SIZE", x.row(0, 0, -1), -9000000000000000014L);
        due("status of SIZE", x.status(), 4);
        x.row(1, 1, 1);
        due("STORE", x.copy(0, 0, 1, 0, 1), -9000000000000000015L);
        due("status of STORE", x.status(), 5);
    }

    private static void refusalsHaveNumbers() {
        Sentences.holds(6, "BAD, STATE, FULL are NOT less 1, 2, 3.");
        DeadAsked x = new DeadAsked();
        due("NOT", DeadAsked.NOT, -9000000000000000000L);
        due("NONE", DeadAsked.NONE, -1000000);
        due("BAD", x.feed(0, 0), -9000000000000000001L);
        due("STATE", x.undo(), -9000000000000000002L);
        for (int k = 0; k < 50; k++) {
            x.feed(0, 8);
        }
        due("FULL", x.feed(0, 1), -9000000000000000003L);
    }

    // ---- nothing changes: one of two objects that are alike has the call, then both are looked at

    private static DeadAsked wellUsed() {
        DeadAsked x = new DeadAsked();
        Check.read(x, "winds 4");
        Check.read(x, HILL);
        x.row(0, 0, 3);
        x.set(0, 0, 1);
        x.set(0, 1, 2);
        x.set(0, 2, 15);
        x.row(1, 1, 2);
        x.set(1, 0, 4);
        x.set(1, 1, 300);
        x.row(2, 0, 2);
        x.image(0);
        x.move(0, 9);
        x.crack(1);
        x.pick(2, 1);
        x.ask(15, 1, 3, 1);
        x.shape(1, 0);
        Check.feedText(x, "winds");
        x.set(0, 3, 9);
        return x;
    }

    private static DeadAsked withoutHill() {
        DeadAsked x = new DeadAsked();
        x.row(1, 0, 1);
        x.set(1, 0, 5);
        Check.feedText(x, "winds");
        return x;
    }

    // 396 bytes: the text that lookers feed then finds no room, either.
    private static DeadAsked nearlyFull() {
        DeadAsked x = Hills.on(HILL);
        Check.feedText(x, Hills.CALM + " ".repeat(352) + "grave 1 2 3 4;");
        return x;
    }

    private static List<Long> looks(DeadAsked x) {
        List<Long> looks = new ArrayList<>();
        looks.add((long) x.fault());
        for (int i = 0; i < 6; i++) {
            looks.add((long) x.trace(i));
        }
        looks.add(x.count(6));
        lookAtHill(x, looks);
        for (int row = 0; row < 3; row++) {
            for (int i = 0; i < 3; i++) {
                looks.add(x.council(15, 1, row, i, 1, 0));
            }
        }
        for (int act = 0; act < 5; act++) {
            looks.add(x.undo());
            lookAtHill(x, looks);
        }
        for (int k = 0; k < 2; k++) {
            looks.add(x.restore(k));
        }
        lookAtHill(x, looks);
        Check.feedText(x, " 1 0 3 0 0 0 0 0 0 0 0 0;grave 1 2 3 4;");
        looks.add(x.hill());
        for (int row = 0; row < 8; row++) {
            looks.add(x.drop(row));
        }
        return looks;
    }

    private static void lookAtHill(DeadAsked x, List<Long> looks) {
        for (int what = 0; what <= 5; what++) {
            looks.add(x.count(what));
        }
        for (int grave = 0; grave < 3; grave++) {
            looks.add(x.grave(grave, 0));
            looks.add(x.grave(grave, 4));
            looks.add(x.grave(grave, 5));
        }
        for (int tree = 0; tree < 3; tree++) {
            looks.add(x.tree(tree, 1));
            looks.add(x.kind(tree));
        }
        for (int hour = 0; hour < 4; hour++) {
            looks.add(x.odds(15, 15, hour, 0));
        }
    }

    private static void stays(String name, Supplier<DeadAsked> made, ToLongFunction<DeadAsked> call, long refusal) {
        DeadAsked x = made.get();
        DeadAsked y = made.get();
        due(name, call.applyAsLong(x), refusal);
        boolean isFinding = refusal < DeadAsked.NOT - 10 && refusal >= DeadAsked.NOT - 15;
        due(name + ": status", x.status(), isFinding ? DeadAsked.NOT - 10 - refusal : y.status());
        List<Long> got = looks(x);
        List<Long> want = looks(y);
        for (int k = 0; k < want.size(); k++) {
            due(name + ": look " + k, got.get(k), want.get(k));
        }
    }

    private static void used(String name, ToLongFunction<DeadAsked> call, long refusal) {
        stays(name, TermsEdges::wellUsed, call, refusal);
    }

    private static void rowsStay() {
        Sentences.holds(2, NOTHING);
        used("row: no such row", x -> x.row(8, 0, 1), Check.BAD);
        used("row: no such lane", x -> x.row(0, 3, 1), Check.BAD);
        used("row: too long", x -> x.row(0, 0, 41), Check.BAD);
        used("row: fewer than none", x -> x.row(0, 1, -1), Check.SIZE);
        Sentences.holds(3, NOTHING);
        used("set: no such row", x -> x.set(-1, 0, 7), Check.BAD);
        used("set: a missing row", x -> x.set(3, 0, 7), Check.NULL);
        used("set: below the first place", x -> x.set(1, -1, 7), Check.PLACE);
        used("set: behind the last place", x -> x.set(0, 3, 7), Check.PLACE);
        Sentences.holds(4, NOTHING);
        used("copy: no such row", x -> x.copy(0, 0, 8, 0, 1), Check.BAD);
        used("copy: a missing row", x -> x.copy(0, 0, 3, 0, 1), Check.NULL);
        used("copy: two lanes", x -> x.copy(0, 0, 1, 0, 1), Check.STORE);
        used("copy: none of what does not all fit", x -> x.copy(0, 0, 2, 0, 3), Check.PLACE);
        used("copy: none of what is not all there", x -> x.copy(0, 2, 2, 0, 2), Check.PLACE);
        Sentences.holds(5, NOTHING);
        used("drop: no such row", x -> x.drop(8), Check.BAD);
        used("drop: a missing row", x -> x.drop(3), Check.NULL);
    }

    private static void tapeStays() {
        Sentences.holds(6, NOTHING);
        used("feed: 0 bytes", x -> x.feed(' ', 0), Check.BAD);
        used("feed: 9 bytes", x -> x.feed(' ', 9), Check.BAD);
        stays("feed: no room", TermsEdges::nearlyFull, x -> x.feed(0x6161616161616161L, 8), Check.FULL);
        stays("feed: room for one less", TermsEdges::nearlyFull, x -> x.feed(0x2020202020L, 5), Check.FULL);
    }

    private static void actsStay() {
        Sentences.holds(9, NOTHING);
        used("ask: no such matter", x -> x.ask(16, 1, 3, 1), Check.BAD);
        used("ask: no such horns", x -> x.ask(15, 16, 3, 1), Check.BAD);
        used("ask: no such hour", x -> x.ask(15, 1, 12, 1), Check.BAD);
        used("ask: no such seed", x -> x.ask(15, 1, 3, 0), Check.BAD);
        Sentences.holds(10, NOTHING);
        used("pick: no such tree", x -> x.pick(3, 1), Check.BAD);
        used("pick: 0", x -> x.pick(1, 0), Check.BAD);
        used("pick: more than are there", x -> x.pick(1, 9), Check.STATE);
        Sentences.holds(11, NOTHING);
        used("move: no such grave", x -> x.move(3, 1), Check.BAD);
        used("move: too far", x -> x.move(1, 31), Check.BAD);
        Sentences.holds(12, NOTHING);
        used("crack: no such horn", x -> x.crack(2), Check.BAD);
        used("crack: a cracked one", x -> x.crack(1), Check.STATE);
        Sentences.holds(14, NOTHING);
        used("grave", x -> x.grave(3, 0), Check.BAD);
        Sentences.holds(15, NOTHING);
        used("tree", x -> x.tree(0, 4), Check.BAD);
    }

    private static void foretoldStays() {
        Sentences.holds(16, NOTHING);
        used("minds", x -> x.minds(0, 1), Check.BAD);
        Sentences.holds(17, NOTHING);
        used("odds", x -> x.odds(1, 1, 12, 0), Check.BAD);
        Sentences.holds(18, NOTHING);
        used("how", x -> x.how(1, 1, 3, 2), Check.BAD);
        Sentences.holds(19, NOTHING);
        used("fell", x -> x.fell(1, 1, 1, 3, 0), Check.BAD);
        Sentences.holds(20, NOTHING);
        used("picks", x -> x.picks(1, 1, 1, 1001), Check.BAD);
        Sentences.holds(21, NOTHING);
        used("council: no such horns", x -> x.council(16, 0, 0, 0, 1, 0), Check.BAD);
        used("council: a missing row", x -> x.council(1, 0, 3, 0, 1, 0), Check.NULL);
        used("council: no such place", x -> x.council(1, 0, 0, 3, 1, 0), Check.PLACE);
        used("council: an item that is no matter", x -> x.council(1, 0, 1, 0, 2, 0), Check.BAD);
        Sentences.holds(22, NOTHING);
        used("image", x -> x.image(2), Check.BAD);
        Sentences.holds(23, NOTHING);
        used("restore: no such image", x -> x.restore(2), Check.BAD);
        used("restore: none was kept", x -> x.restore(1), Check.STATE);
    }

    private static void askedStays() {
        Sentences.holds(24, NOTHING);
        used("kind", x -> x.kind(3), Check.BAD);
        Sentences.holds(25, NOTHING);
        used("as: no such kind", x -> x.as(0, 6), Check.BAD);
        used("as: another kind", x -> x.as(0, 5), Check.KIND);
        Sentences.holds(26, NOTHING);
        used("shape: no such tree", x -> x.shape(3, 0), Check.BAD);
        used("shape: no such ask", x -> x.shape(0, 2), Check.BAD);
        Sentences.holds(28, NOTHING);
        used("count", x -> x.count(7), Check.BAD);
    }

    private static void withoutHillAllStays() {
        Sentences.holds(1, NOTHING);
        Supplier<DeadAsked> made = TermsEdges::withoutHill;
        stays("ask", made, x -> x.ask(1, 1, 0, 1), Check.STATE);
        stays("pick", made, x -> x.pick(0, 1), Check.BAD);
        stays("move", made, x -> x.move(0, 1), Check.BAD);
        stays("crack", made, x -> x.crack(0), Check.BAD);
        stays("undo", made, x -> x.undo(), Check.STATE);
        stays("minds", made, x -> x.minds(1, 1), Check.STATE);
        stays("odds", made, x -> x.odds(1, 1, 0, 0), Check.STATE);
        stays("how", made, x -> x.how(1, 0, 0, 11), Check.STATE);
        stays("fell", made, x -> x.fell(1, 1, 0, 0, 0), Check.STATE);
        stays("picks", made, x -> x.picks(1, 1, 0, 0), Check.STATE);
        stays("council", made, x -> x.council(1, 0, 3, 0, 1, 0), Check.STATE);
        stays("image", made, x -> x.image(0), Check.STATE);
        stays("restore", made, x -> x.restore(0), Check.STATE);
    }

    // More acts than are kept, more calls than rows have places: the last answer is as due as the first.
    private static void fiveHundredAndTwelveCalls() {
        Sentences.holds(13, "An object is used for at most 512 calls after it has been made; what later calls answer"
                + " is free.");
        DeadAsked x = Hills.on(Hills.CALM + "grave 0 0 0 0;");
        int calls = (30 + 14 + 7) / 8 + 1;
        for (; calls < 487; calls++) {
            due("move " + calls, x.move(0, (calls + 1) % 31), calls == 7 ? 0 : calls % 31);
        }
        for (int left = 23; left >= 0; left--) {
            due("undo", x.undo(), left);
        }
        due("call 512", x.grave(0, 0), (486 - 23) % 31);
    }
}
