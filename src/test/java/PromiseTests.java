/** For each promise: ordinary inputs, the edges that the document names, and wrong inputs. */
public final class PromiseTests {
    private static final long BAD = Check.BAD;
    private static final long STATE = Check.STATE;
    private static final long NONE = Check.NONE;
    private static final int LEAST_INT = Integer.MIN_VALUE;
    private static final int MOST_INT = Integer.MAX_VALUE;

    private static final String CALM = "winds 0 0 0 0 0 0 0 0 0 0 0 0;";

    // Grave 0 is as near to tree 0 as to tree 1; grave 3 is far from all; tree 3 has no fruit.
    private static final String HILL = "winds 0 1 2 3 0 0 0 0 0 0 0 1;"
            + "grave 5 0 4 1; grave 8 3 0 2; grave 12 9 5 15; grave 30 9 9 15;"
            + "horn 5 10; horn 15 8;"
            + "tree pear 4 2; tree ash 6 1; tree oak 10 3; tree fir 20 0;";

    private PromiseTests() {
    }

    public static void main(String[] args) {
        newObject();
        rowsAreMade();
        itemsAreSet();
        itemsAreCopied();
        rowsAreDropped();
        bytesAreFed();
        hillsAreRead();
        faultsOfTheText();
        faultsOfSorts();
        faultsOfNumbers();
        mattersAreAsked();
        asksByHand();
        fruitIsPicked();
        gravesAreMoved();
        hornsCrack();
        actsAreUndone();
        oldestActsAreForgotten();
        gravesAreTold();
        treesAreTold();
        mindsAreTold();
        oddsAreTold();
        waysAreFound();
        objectionsAreTold();
        picksAreFound();
        councilsAreTold();
        imagesAreKept();
        imagesAreRestored();
        kindsAreTold();
        treesAreTakenAsKinds();
        shapesAreAsked();
        countsAreTold();
        statusIsTold();
        fullHill();
        Check.end("PromiseTests");
    }

    private static DeadAsked onHill(String text) {
        DeadAsked x = new DeadAsked();
        Check.due("hill of " + text, Check.read(x, text) < 0 ? 1 : 0, 0);
        return x;
    }

    private static void due(String what, long got, long want) {
        Check.due(what, got, want);
    }

    // ---- promise 1

    private static void newObject() {
        DeadAsked x = new DeadAsked();
        due("NONE", DeadAsked.NONE, -1000000);
        due("NOT", DeadAsked.NOT, -9000000000000000000L);
        for (int what = 0; what <= 6; what++) {
            due("new count " + what, x.count(what), 0);
        }
        due("new status", x.status(), 0);
        due("new fault", x.fault(), 0);
        due("new trace", x.trace(0), NONE);
        due("new minds", x.minds(1, 1), STATE);
        due("new undo", x.undo(), STATE);
        due("new image", x.image(0), STATE);
        due("new restore", x.restore(0), STATE);
        for (int row = 0; row < 8; row++) {
            due("new row " + row, x.drop(row), Check.NULL);
        }
    }

    // ---- promises 2 to 5

    private static void rowsAreMade() {
        DeadAsked x = new DeadAsked();
        due("row", x.row(0, 0, 3), 3);
        due("row of none", x.row(7, 2, 0), 0);
        due("longest row", x.row(1, 1, 40), 40);
        due("last item", x.set(1, 39, 5), 5);
        due("count of rows", x.count(0), 3);
        due("row below", x.row(-1, 0, 1), BAD);
        due("row beyond", x.row(8, 0, 1), BAD);
        due("lane below", x.row(0, -1, 1), BAD);
        due("lane beyond", x.row(0, 3, 1), BAD);
        due("too long", x.row(0, 0, 41), BAD);
        due("most int", x.row(0, 0, MOST_INT), BAD);
        due("fewer than none", x.row(0, 0, -1), Check.SIZE);
        due("least int", x.row(0, 0, LEAST_INT), Check.SIZE);
        due("bad ahead of size", x.row(8, 0, -1), BAD);
        due("lane ahead of size", x.row(0, 3, -1), BAD);
        due("refused row stays", x.drop(0), 3);
        x.row(1, 2, 2);
        due("a new row is of the new lane", x.set(1, 0, 100000), 100000);
        due("a new row has the new size", x.set(1, 2, 1), Check.PLACE);
        newItemsAreNone();
    }

    // A council refuses an item of 0 and takes one of 1.
    private static void newItemsAreNone() {
        DeadAsked x = onHill(CALM);
        for (int row = 6; row < 8; row++) {
            x.row(row, 2, 40);
            for (int i = 0; i < 40; i++) {
                x.set(row, i, 1);
            }
        }
        x.row(6, 2, 40);
        for (int i = 0; i < 40; i++) {
            due("items of a new row are 0", x.council(0, 0, 6, i, 1, 0), BAD);
            due("items of the next row stay", x.council(0, 0, 7, i, 1, 0), 1);
        }
        due("the last row", x.row(7, 2, 40), 40);
        due("its last item", x.council(0, 0, 7, 39, 1, 0), BAD);
    }

    private static void itemsAreSet() {
        DeadAsked x = new DeadAsked();
        x.row(0, 0, 2);
        x.row(1, 1, 2);
        x.row(2, 2, 2);
        due("byte", x.set(0, 0, 127), 127);
        due("byte over", x.set(0, 0, 128), -128);
        due("byte of more", x.set(0, 1, 511), -1);
        due("byte below", x.set(0, 1, -129), 127);
        due("short", x.set(1, 0, 32767), 32767);
        due("short over", x.set(1, 0, 32768), -32768);
        due("short of more", x.set(1, 1, 65537), 1);
        due("int", x.set(2, 0, LEAST_INT), LEAST_INT);
        due("int most", x.set(2, 1, MOST_INT), MOST_INT);
        due("set row below", x.set(-1, 0, 0), BAD);
        due("set row beyond", x.set(8, 0, 0), BAD);
        due("set missing", x.set(3, 0, 0), Check.NULL);
        due("null ahead of place", x.set(3, -1, 0), Check.NULL);
        due("place below", x.set(0, -1, 0), Check.PLACE);
        due("place beyond", x.set(0, 2, 0), Check.PLACE);
        due("place most", x.set(0, MOST_INT, 0), Check.PLACE);
        due("place least", x.set(0, LEAST_INT, 0), Check.PLACE);
    }

    private static void itemsAreCopied() {
        DeadAsked x = new DeadAsked();
        Check.read(x, CALM + "grave 0 9 1 1; grave 0 9 2 2; grave 0 9 3 4; grave 0 9 4 8; horn 0 40; tree fir 0 1;");
        x.row(0, 0, 5);
        x.row(1, 0, 3);
        x.row(2, 1, 3);
        putTopics(x, 0);
        due("copy", x.copy(0, 1, 1, 0, 3), 3);
        itemsDue(x, 1, 2, 3, 4);
        due("overlap up", x.copy(0, 0, 0, 1, 3), 3);
        itemsDue(x, 0, 1, 1, 2, 3);
        putTopics(x, 0);
        due("overlap down", x.copy(0, 1, 0, 0, 3), 3);
        itemsDue(x, 0, 2, 3, 4, 4);
        due("none at the ends", x.copy(0, 5, 1, 3, 0), 0);
        due("a row below", x.copy(-1, 0, 0, 0, 0), BAD);
        due("b row beyond", x.copy(0, 0, 8, 0, 0), BAD);
        due("a missing", x.copy(3, 0, 0, 0, 0), Check.NULL);
        due("b missing", x.copy(0, 0, 3, 0, 0), Check.NULL);
        due("null ahead of store", x.copy(2, 9, 3, 0, 0), Check.NULL);
        due("store", x.copy(0, 0, 2, 0, 1), Check.STORE);
        due("store ahead of place", x.copy(0, -1, 2, 0, 1), Check.STORE);
        due("i below", x.copy(0, -1, 1, 0, 1), Check.PLACE);
        due("j below", x.copy(0, 0, 1, -1, 1), Check.PLACE);
        due("n below", x.copy(0, 0, 1, 0, -1), Check.PLACE);
        due("i beyond", x.copy(0, 4, 1, 0, 2), Check.PLACE);
        due("j beyond", x.copy(0, 0, 1, 2, 2), Check.PLACE);
        due("none beyond an end of a", x.copy(0, 6, 1, 0, 0), Check.PLACE);
        due("none beyond an end of b", x.copy(0, 0, 1, 4, 0), Check.PLACE);
        due("most int", x.copy(0, MOST_INT, 1, 0, MOST_INT), Check.PLACE);
        due("i and most n", x.copy(0, 1, 1, 0, MOST_INT), Check.PLACE);
        due("j of most", x.copy(0, 0, 1, MOST_INT, 1), Check.PLACE);
        itemsDue(x, 1, 2, 3, 4);
        itemsDue(x, 0, 2, 3, 4, 4);
    }

    private static void putTopics(DeadAsked x, int row) {
        for (int i = 0; i < 5; i++) {
            x.set(row, i, i + 1);
        }
    }

    // Items are told by councils: on this hill each matter has odds of its own.
    private static void itemsDue(DeadAsked x, int row, int... matters) {
        for (int i = 0; i < matters.length; i++) {
            String name = "item " + i + " of row " + row;
            Check.fraction(name, x.council(1, 0, row, i, 1, 0), x.council(1, 0, row, i, 1, 1),
                    x.odds(matters[i], 1, 0, 0), x.odds(matters[i], 1, 0, 1));
        }
    }

    private static void rowsAreDropped() {
        DeadAsked x = new DeadAsked();
        x.row(4, 1, 17);
        due("drop", x.drop(4), 17);
        due("dropped", x.drop(4), Check.NULL);
        due("set dropped", x.set(4, 0, 0), Check.NULL);
        due("drop below", x.drop(-1), BAD);
        due("drop beyond", x.drop(8), BAD);
        due("none left", x.count(0), 0);
        x.row(7, 0, 0);
        due("drop of none", x.drop(7), 0);
    }

    // ---- promises 6 to 8

    private static void bytesAreFed() {
        DeadAsked x = new DeadAsked();
        due("feed 0", x.feed(1, 0), BAD);
        due("feed 9", x.feed(1, 9), BAD);
        due("feed below", x.feed(1, -1), BAD);
        due("feed 1", x.feed('w', 1), 1);
        due("lowest bytes", x.feed(0x11220000696E6473L, 4), 5);
        for (int hour = 0; hour < 12; hour++) {
            due("highest first", x.feed(0x2030, 2), 7 + 2 * hour);
        }
        x.feed(';', 1);
        due("read", x.hill(), 0);
        due("empty then", x.count(6), 0);
        for (int k = 1; k <= 49; k++) {
            due("feed up to the end", x.feed(0x2020202020202020L, 8), 8 * k);
        }
        due("feed 7", x.feed(0x2020202020202020L, 7), 399);
        due("full", x.feed(0, 2), Check.FULL);
        due("bad ahead of full", x.feed(0, 9), BAD);
        due("none came", x.count(6), 399);
        due("the last one", x.feed(' ', 1), 400);
        due("full of one", x.feed(' ', 1), Check.FULL);
        due("fault at the end of all", x.hill(), DeadAsked.NOT - 500);
        due("tape is empty", x.count(6), 0);
    }

    private static void hillsAreRead() {
        DeadAsked x = new DeadAsked();
        due("calm hill", Check.read(x, CALM), 0);
        due("no graves", x.count(1), 0);
        due("hill", Check.read(x, HILL), 4);
        due("graves", x.count(1), 4);
        due("horns", x.count(2), 2);
        due("trees", x.count(3), 4);
        due("nothing between", Check.read(x, "winds3 0 0 0 0 0 0 0 0 0 0 3;grave1 2 3 4;tree ash5 9;"), 1);
        due("x", x.grave(0, 0), 1);
        due("hears", x.grave(0, 1), 2);
        due("temper", x.grave(0, 2), 3);
        due("against", x.grave(0, 3), 4);
        due("fruit", x.tree(0, 1), 9);
        due("blanks", Check.read(x, " \n winds\n0 00 000 0 0 0 0 0 0 0 0 0 \n;  grave 030 09 9 015 \n ;\n "), 1);
        due("x of figures", x.grave(0, 0), 30);
        due("against of figures", x.grave(0, 3), 15);
        due("no horns left", x.count(2), 0);
        due("names end where figures begin, and the other way",
                Check.read(x, "winds 0 0 0 0 0 0 0 0 0 0 0 0;grave 0 0 0 0;horn 0 1;horn 30 40;tree pear0 0;tree nut1 1;"
                        + "tree oak 2 2;tree fir 30 3;"), 1);
        due("most of each", Check.read(x, CALM + "grave 0 0 0 0;grave 0 0 0 0;grave 0 0 0 0;grave 0 0 0 0;"
                + "grave 0 0 0 0;horn 0 1;horn 0 1;horn 0 1;horn 0 1;"
                + "tree fir 0 0;tree fir 1 0;tree fir 2 0;tree fir 3 0;"), 5);
        nothingIsLeftOfOldHills();
        x.image(0);
        x.row(0, 0, 4);
        x.crack(0);
        x.move(0, 9);
        due("acts done", x.count(4), 2);
        due("read again", Check.read(x, HILL), 4);
        due("no act was done", x.count(4), 0);
        due("no undo", x.undo(), STATE);
        due("no horn is cracked", x.count(2), 2);
        due("rows stay", x.count(0), 1);
        due("images stay", x.restore(0), 1);
        due("the old hill", x.count(1), 5);
        due("not yet cracked", x.count(2), 4);
    }

    private static void nothingIsLeftOfOldHills() {
        DeadAsked x = onHill(HILL);
        x.crack(0);
        for (int k = 0; k < 3; k++) {
            Check.read(x, HILL);
            due("horns of another hill", x.count(2), 2);
            x.crack(1);
        }
        for (int k = 0; k < 3; k++) {
            Check.read(x, CALM);
            due("graves of a calm hill", x.count(1), 0);
            due("horns of a calm hill", x.count(2), 0);
            due("trees of a calm hill", x.count(3), 0);
        }
        Check.read(x, "winds 0 1111111");
        due("a number at the end ends there", Check.read(x, "winds 0 1"), DeadAsked.NOT - 109);
        Check.read(x, "winds;horn");
        due("a name at the end ends there", Check.read(x, "winds"), DeadAsked.NOT - 105);
    }

    private static void faultDue(String text, int fault, int place) {
        DeadAsked x = onHill(HILL);
        x.crack(0);
        due("fault of '" + text + "'", Check.read(x, text), DeadAsked.NOT - 100 - place);
        due("fault number of '" + text + "'", x.fault(), fault);
        due("the tape is empty", x.count(6), 0);
        due("graves stay", x.count(1), 4);
        due("acts stay", x.count(4), 1);
        due("horns stay", x.count(2), 1);
        due("a hill is read", Check.read(x, CALM), 0);
        due("and leaves the fault", x.fault(), fault);
    }

    private static void faultsOfTheText() {
        faultDue("", 1, 0);
        faultDue("  \n ", 1, 4);
        faultDue("wind 0", 1, 0);
        faultDue(" windsx", 1, 1);
        faultDue("winds", 1, 5);
        faultDue("winds ", 1, 6);
        faultDue("winds 0 0 0 0 0 0 0 0 0 0 0;", 1, 27);
        faultDue("winds 0 0 0 0 0 0 0 0 0 0 0 0 0;", 1, 30);
        faultDue("winds 0 0 0 0 0 0 0 0 0 0 0 0", 1, 29);
        faultDue("winds 0 0 0 0 0 0 0 0 0 0 0 0\t;", 1, 29);
        faultDue("winds 0 0 0 0 0 0 0 0 0 0 0 0;\u00e9", 1, 30);
        faultDue("Winds 0", 1, 0);
        faultDue("minds 0", 1, 0);
        faultDue(CALM + "brave 0 0 0 0;", 1, 30);
        faultDue(CALM + "tree pearz 0 0;", 1, 35);
        faultDue(CALM + "tree pear{ 0 0;", 1, 39);
        faultDue(CALM + "tree pear` 0 0;", 1, 39);
        faultDue(CALM + "tree pear / 0;", 1, 40);
        faultDue(CALM + "tree pear : 0;", 1, 40);
        faultDue("winds 0000 0", 1, 6);
        faultDue("winds 12345", 1, 6);
        faultDue("winds 004 0", 2, 6);
        faultDue("winds 4 4", 2, 6);
        faultDue("winds -1", 1, 6);
        faultDue("winds a", 1, 6);
        faultDue(CALM + ";", 1, 30);
        faultDue(CALM + "0", 1, 30);
        faultDue(CALM + CALM, 1, 30);
        faultDue(CALM + "x", 1, 30);
        faultDue(CALM + "grave", 1, 35);
        faultDue(CALM + "graves 1", 1, 30);
        faultDue(CALM + "grave;", 1, 35);
        faultDue(CALM + "grave 1 1 1;", 1, 41);
        faultDue(CALM + "grave 1 1 1 1 1;", 1, 44);
        faultDue(CALM + "horn 1;", 1, 36);
        faultDue(CALM + "horn 1 1 1;", 1, 39);
        faultDue(CALM + "tree 1", 1, 35);
        faultDue(CALM + "tree elm 1 1;", 1, 35);
        faultDue(CALM + "tree pears 1 1;", 1, 35);
        faultDue(CALM + "tree pea 1 1;", 1, 35);
        faultDue(CALM + "tree pear;", 1, 39);
        faultDue(CALM + "tree pear 1;", 1, 41);
        faultDue(CALM + "tree pear 1 1 1;", 1, 44);
        faultDue(CALM + "tree pear 1 1", 1, 43);
    }

    private static void faultsOfSorts() {
        String grave = "grave 0 0 0 0;";
        String horn = "horn 0 1;";
        faultDue(CALM + horn + grave, 1, 39);
        faultDue(CALM + "tree fir 0 0;" + horn, 1, 43);
        faultDue(CALM + "tree fir 0 0;" + grave, 1, 43);
        faultDue(CALM + grave + grave + grave + grave + grave + "grave", 3, 100);
        faultDue(CALM + horn + horn + horn + horn + " horn x", 3, 67);
        faultDue(CALM + grave + grave + grave + grave + grave + horn + grave, 1, 109);
        faultDue(CALM + "tree fir 0 0;tree fir 1 0;tree fir 2 0;tree fir 3 0;tree elm", 3, 82);
    }

    private static void faultsOfNumbers() {
        faultDue(CALM + "grave 31 10 10 16;", 2, 36);
        faultDue(CALM + "grave 30 10 10 16;", 2, 39);
        faultDue(CALM + "grave 30 9 10 16;", 2, 41);
        faultDue(CALM + "grave 30 9 9 16;", 2, 43);
        faultDue(CALM + "grave 999 0 0 0;", 2, 36);
        faultDue(CALM + "grave 1000 0 0 0;", 1, 36);
        faultDue(CALM + "horn 31 0;", 2, 35);
        faultDue(CALM + "horn 30 0;", 2, 38);
        faultDue(CALM + "horn 30 41;", 2, 38);
        faultDue(CALM + "tree nut 31 10;", 2, 39);
        faultDue(CALM + "tree nut 30 10;", 2, 42);
        faultDue(CALM + "tree nut 7 0;tree fir 007 0;", 2, 52);
        faultDue(CALM + "tree nut 0 0;tree fir 0000 0;", 1, 52);
        faultDue(CALM + "tree nut 0 0;tree fir 0", 2, 52);
        faultDue(CALM + "tree nut 0 0;tree fir ;", 1, 52);
    }

    // ---- promises 9 to 13

    private static void askRefused(DeadAsked x, long why) {
        due("ask matter 0", x.ask(0, 1, 0, 1), why);
        due("ask matter 16", x.ask(16, 1, 0, 1), why);
        due("ask horns below", x.ask(1, -1, 0, 1), why);
        due("ask horns 16", x.ask(1, 16, 0, 1), why);
        due("ask hour below", x.ask(1, 1, -1, 1), why);
        due("ask hour 12", x.ask(1, 1, 12, 1), why);
        due("ask seed 0", x.ask(1, 1, 0, 0), why);
        due("ask seed 1000000", x.ask(1, 1, 0, 1000000), why);
    }

    private static void mattersAreAsked() {
        askRefused(new DeadAsked(), STATE);
        due("ask of no hill", new DeadAsked().ask(1, 1, 0, 1), STATE);
        DeadAsked x = onHill(HILL);
        askRefused(x, BAD);
        due("no act yet", x.count(4), 0);
        due("least seed", x.ask(1, 0, 0, 1), 0);
        due("most seed", x.ask(15, 15, 11, 999999) >= 0 ? 0 : 1, 0);
        due("two acts", x.count(4), 2);
    }

    // Seed 1 draws 16807, 282475249, 1622650073, 984943658, 1144108930, 470211272, 101027544, 1457850878: their
    // last figures are 7 9 3 8 0 2 4 8.
    private static void asksByHand() {
        DeadAsked x = onHill("winds 3 0 0 0 0 0 0 0 0 0 0 0; grave 0 9 9 1; grave 1 9 4 1; grave 20 9 1 1; grave 3 9 9 2;"
                + "horn 0 40; tree pear 2 1; tree ash 30 0; tree ash 19 5;");
        // Tree 0: wind 7 below 6 no, grave 0: 9 below 9 no, grave 1: 3 below 4 yes; tree 2: wind 8 below 9 yes,
        // grave 2: 0 below 1 too.
        due("ask by hand", x.ask(1, 1, 0, 1), 5);
        due("one less", x.tree(0, 1), 0);
        due("one less, of two that let it fall", x.tree(2, 1), 4);
        due("none of a tree without", x.tree(1, 1), 0);
        // Only tree 2 is left: the wind of hour 1 has its draw (7 below 0), grave 2: 9 below 1.
        due("draws of the rest", x.ask(1, 1, 1, 1), 0);
        due("an ask is an act", x.count(4), 2);
        x.undo();
        x.undo();
        due("fruit again", x.tree(0, 1), 1);
        due("fruit again", x.tree(2, 1), 5);
        // Only the winds: tree 0: 7 below 6 no; tree 2: 9 below 9 no.
        due("draws of the winds", x.ask(1, 0, 0, 1), 0);
        // Nothing blows: tree 0: 7, then 9 and 3 below 4; tree 2: 8, then 0 below 1.
        due("draws of the graves", x.ask(1, 1, 5, 1), 5);
        // The wind draws 7, the grave 9, which is not below 9.
        DeadAsked y = onHill(CALM + "grave 0 9 9 1; horn 0 40; tree pear 0 9;");
        due("a draw that is as high", y.ask(1, 1, 0, 1), 0);
        // Seed 2 draws 33614, a 4: not below the 4 tenths of a pear in hour 0.
        DeadAsked z = onHill("winds 2 3 0 0 0 0 0 0 0 0 0 0; tree pear 0 9;");
        due("a draw of the wind that is as high", z.ask(1, 1, 0, 2), 0);
        due("a draw of the wind below", z.ask(1, 1, 1, 2), 1);
    }

    private static void fruitIsPicked() {
        due("pick of no hill", new DeadAsked().pick(0, 1), BAD);
        DeadAsked x = onHill(HILL);
        due("tree below", x.pick(-1, 1), BAD);
        due("tree beyond", x.pick(4, 1), BAD);
        due("n 0", x.pick(0, 0), BAD);
        due("n 10", x.pick(0, 10), BAD);
        due("n 10 ahead of state", x.pick(3, 10), BAD);
        due("not so many", x.pick(0, 3), STATE);
        due("of none", x.pick(3, 1), STATE);
        due("no act", x.count(4), 0);
        due("pick", x.pick(2, 1), 2);
        due("all", x.pick(2, 2), 0);
        due("fruit", x.tree(2, 1), 0);
        due("the others stay", x.count(5), 3);
        due("nearest of those left", x.grave(2, 4), NONE);
        due("two acts", x.count(4), 2);
        x.undo();
        due("fruit again", x.tree(2, 1), 2);
        DeadAsked y = onHill(CALM + "tree oak 0 9;");
        due("nine", y.pick(0, 9), 0);
    }

    private static void gravesAreMoved() {
        due("move of no hill", new DeadAsked().move(0, 1), BAD);
        DeadAsked x = onHill(HILL);
        due("grave below", x.move(-1, 1), BAD);
        due("grave beyond", x.move(4, 1), BAD);
        due("x below", x.move(0, -1), BAD);
        due("x beyond", x.move(0, 31), BAD);
        due("no act", x.count(4), 0);
        due("move", x.move(0, 30), 5);
        due("to its own", x.move(0, 30), 30);
        due("to 0", x.move(0, 0), 30);
        due("where it is", x.grave(0, 0), 0);
        due("three acts", x.count(4), 3);
        x.undo();
        x.undo();
        due("where it was", x.grave(0, 0), 30);
        x.undo();
        due("where it was first", x.grave(0, 0), 5);
    }

    private static void hornsCrack() {
        due("crack of no hill", new DeadAsked().crack(0), BAD);
        DeadAsked x = onHill(HILL);
        due("horn below", x.crack(-1), BAD);
        due("horn beyond", x.crack(2), BAD);
        due("crack", x.crack(1), 1);
        due("cracked", x.crack(1), STATE);
        due("one act", x.count(4), 1);
        due("one horn left", x.count(2), 1);
        due("not heard", x.grave(2, 5), 1);
        due("nobody minds through it", x.minds(15, 2), 0);
        due("undo", x.undo(), 0);
        due("heard", x.grave(2, 5), 3);
        due("again", x.crack(1), 1);
        due("the other", x.crack(0), 1);
        due("none left", x.count(2), 0);
    }

    private static void actsAreUndone() {
        due("undo of no hill", new DeadAsked().undo(), STATE);
        DeadAsked x = onHill(HILL);
        due("undo of none", x.undo(), STATE);
        x.move(1, 20);
        x.pick(0, 2);
        x.crack(0);
        long fallen = x.ask(15, 2, 3, 5);
        x.move(2, 0);
        due("undo a move", x.undo(), 4);
        due("x", x.grave(2, 0), 12);
        due("something fell", fallen != 0 ? 1 : 0, 1);
        due("fruit is less", x.count(5), 4 - Long.bitCount(fallen));
        due("undo an ask", x.undo(), 3);
        due("fruit", x.count(5), 4);
        due("undo a crack", x.undo(), 2);
        due("horns", x.count(2), 2);
        due("undo a pick", x.undo(), 1);
        due("fruit of the tree", x.tree(0, 1), 2);
        due("undo the first", x.undo(), 0);
        due("x of the first", x.grave(1, 0), 8);
        due("none is left", x.undo(), STATE);
    }

    private static void oldestActsAreForgotten() {
        DeadAsked x = onHill(HILL);
        for (int k = 0; k < 27; k++) {
            x.move(0, k);
            due("acts kept", x.count(4), Math.min(k + 1, 24));
        }
        for (int k = 23; k >= 0; k--) {
            due("undo of many", x.undo(), k);
            due("where it was", x.grave(0, 0), k + 2);
        }
        due("the oldest are forgotten", x.undo(), STATE);
        due("and stay done", x.grave(0, 0), 2);
        x.move(0, 7);
        due("one again", x.undo(), 0);
        due("undone", x.grave(0, 0), 2);
    }

    // ---- promises 14 to 16

    private static void graveDue(DeadAsked x, int grave, long... wants) {
        for (int what = 0; what < wants.length; what++) {
            due("grave " + grave + ", " + what, x.grave(grave, what), wants[what]);
        }
    }

    private static void gravesAreTold() {
        due("grave of no hill", new DeadAsked().grave(0, 0), BAD);
        DeadAsked x = onHill(HILL);
        graveDue(x, 0, 5, 0, 4, 1, 0, 1, BAD);
        graveDue(x, 1, 8, 3, 0, 2, 1, 1, BAD);
        graveDue(x, 2, 12, 9, 5, 15, 2, 3, BAD);
        graveDue(x, 3, 30, 9, 9, 15, NONE, 0, BAD);
        due("grave below", x.grave(-1, 0), BAD);
        due("grave beyond", x.grave(4, 0), BAD);
        due("what below", x.grave(0, -1), BAD);
        x.move(0, 13);
        due("3 away", x.grave(0, 4), 2);
        x.move(0, 14);
        due("4 away", x.grave(0, 4), NONE);
        x.move(0, 1);
        due("3 away on the other side", x.grave(0, 4), 0);
        x.move(0, 0);
        due("4 away on the other side", x.grave(0, 4), NONE);
        x.move(0, 20);
        due("a tree without fruit is none", x.grave(0, 4), NONE);
        x.move(2, 14);
        due("10 of loudness", x.grave(2, 5), 3);
        x.move(2, 15);
        due("9 of loudness", x.grave(2, 5), 2);
    }

    private static void treesAreTold() {
        due("tree of no hill", new DeadAsked().tree(0, 0), BAD);
        DeadAsked x = onHill(HILL);
        long[][] wants = {{4, 2, 2, 1, BAD}, {6, 1, 3, 2, BAD}, {10, 3, 1, 4, BAD}, {20, 0, 0, 0, BAD}};
        for (int tree = 0; tree < wants.length; tree++) {
            for (int what = 0; what < wants[tree].length; what++) {
                due("tree " + tree + ", " + what, x.tree(tree, what), wants[tree][what]);
            }
        }
        due("tree below", x.tree(-1, 0), BAD);
        due("tree beyond", x.tree(4, 0), BAD);
        due("what below", x.tree(0, -1), BAD);
        x.move(1, 4);
        due("two graves of a tree", x.tree(0, 3), 3);
        x.pick(0, 2);
        due("none of a tree without fruit", x.tree(0, 3), 0);
        due("the next nearest", x.tree(1, 3), 3);
        DeadAsked y = onHill(CALM + "tree nut 0 1;");
        due("loose of a nut", y.tree(0, 2), 1);
    }

    private static void mindsAreTold() {
        due("minds of no hill", new DeadAsked().minds(0, 99), STATE);
        DeadAsked x = onHill(HILL);
        due("matter 0", x.minds(0, 1), BAD);
        due("matter 16", x.minds(16, 1), BAD);
        due("horns below", x.minds(1, -1), BAD);
        due("horns 16", x.minds(1, 16), BAD);
        due("topic 0", x.minds(1, 1), 5);
        due("topic 1", x.minds(2, 1), 6);
        due("topic 3", x.minds(8, 3), 4);
        due("all", x.minds(15, 15), 7);
        due("the other horn", x.minds(15, 2), 4);
        due("horns of none", x.minds(15, 12), 0);
        due("no horns", x.minds(15, 0), 0);
        x.pick(2, 3);
        due("no tree", x.minds(15, 15), 3);
        x.crack(0);
        due("cracked", x.minds(15, 15), 0);
    }

    // ---- promises 17 to 21

    private static void oddsDue(DeadAsked x, int matter, int horns, int hour, long above, long below) {
        Check.fraction("odds " + matter + " " + horns + " " + hour, x.odds(matter, horns, hour, 0),
                x.odds(matter, horns, hour, 1), above, below);
    }

    private static void oddsAreTold() {
        due("odds of no hill", new DeadAsked().odds(0, 0, 0, 9), STATE);
        DeadAsked x = onHill(HILL);
        due("matter 0", x.odds(0, 1, 0, 0), BAD);
        due("matter 16", x.odds(16, 1, 0, 0), BAD);
        due("horns below", x.odds(1, -1, 0, 0), BAD);
        due("horns 16", x.odds(1, 16, 0, 0), BAD);
        due("hour below", x.odds(1, 1, -1, 0), BAD);
        due("hour 12", x.odds(1, 1, 12, 0), BAD);
        due("what below", x.odds(1, 1, 0, -1), BAD);
        due("what 2", x.odds(1, 1, 0, 2), BAD);
        oddsDue(x, 1, 1, 0, 3, 10);
        oddsDue(x, 2, 1, 0, 1, 2);
        oddsDue(x, 8, 0, 0, 1, 1);
        oddsDue(x, 15, 15, 1, 189, 1250);
        oddsDue(x, 1, 0, 3, 7, 250);
        oddsDue(x, 1, 0, 11, 63, 125);
        x.pick(1, 1);
        oddsDue(x, 1, 0, 3, 7, 25);
        DeadAsked y = onHill("winds 3 3 3 3 3 3 3 3 3 3 3 3; grave 2 9 9 1; grave 2 9 9 1; grave 2 9 9 1; grave 2 9 9 1;"
                + "grave 2 9 9 1; horn 2 40; tree ash 0 1; tree ash 1 1; tree ash 3 1; tree ash 4 1;");
        oddsDue(y, 1, 1, 0, 1, 1000000000);
    }

    private static void waysAreFound() {
        due("how of no hill", new DeadAsked().how(0, 9, 9, 1), STATE);
        DeadAsked x = onHill(HILL);
        due("matter 0", x.how(0, 0, 0, 0), BAD);
        due("matter 16", x.how(16, 0, 0, 0), BAD);
        due("q below", x.how(1, -1, 0, 0), BAD);
        due("q 6", x.how(1, 6, 0, 0), BAD);
        due("a below", x.how(1, 0, -1, 0), BAD);
        due("b 12", x.how(1, 0, 0, 12), BAD);
        due("a more than b", x.how(1, 0, 2, 1), BAD);
        due("a 12", x.how(1, 0, 12, 12), BAD);
        due("none of horns", x.how(1, 0, 0, 11), 0);
        due("first hour", x.how(1, 0, 1, 11), 64);
        due("one hour", x.how(1, 0, 3, 3), 48);
        due("one hears", x.how(1, 1, 0, 11), 2);
        due("two hear", x.how(1, 2, 2, 3), 33);
        due("three hear", x.how(15, 3, 0, 0), 1);
        due("four do not hear", x.how(1, 4, 0, 11), NONE);
        due("five are not", x.how(1, 5, 0, 11), NONE);
        x.crack(0);
        due("a cracked horn is not in the least set", x.how(1, 1, 0, 0), 2);
        due("two do not hear now", x.how(1, 2, 0, 0), NONE);
        DeadAsked y = onHill("winds 3 2 1 1 2 3 3 3 3 3 3 3; grave 1 0 5 1; grave 20 0 4 1; horn 1 10; horn 20 10;"
                + "horn 20 9; tree ash 1 1; tree oak 20 1;");
        due("the calmest hour", y.how(1, 1, 0, 11), 34);
        due("both", y.how(1, 2, 4, 11), 67);
        due("the best horn is not the first", y.how(1, 1, 0, 0), 2);
        due("of equal hours the first", y.how(1, 1, 6, 11), 98);
    }

    private static void objectionDue(DeadAsked x, int[] asked, long above, long below, long who) {
        String name = "fell " + asked[0] + " " + asked[1] + " " + asked[2] + " " + asked[3];
        Check.fraction(name, x.fell(asked[0], asked[1], asked[2], asked[3], 0),
                x.fell(asked[0], asked[1], asked[2], asked[3], 1), above, below);
        due(name + " who", x.fell(asked[0], asked[1], asked[2], asked[3], 2), who);
    }

    private static void objectionsAreTold() {
        due("fell of no hill", new DeadAsked().fell(0, 0, 0, 9, 9), STATE);
        DeadAsked x = onHill(HILL);
        due("matter 0", x.fell(0, 1, 0, 0, 0), BAD);
        due("horns 16", x.fell(1, 16, 0, 0, 0), BAD);
        due("hour 12", x.fell(1, 1, 12, 0, 0), BAD);
        due("tree below", x.fell(1, 1, 0, -1, 0), BAD);
        due("tree beyond", x.fell(1, 1, 0, 4, 0), BAD);
        due("what below", x.fell(1, 1, 0, 0, -1), BAD);
        due("what 3", x.fell(1, 1, 0, 0, 3), BAD);
        // A grave 4 tenths, the wind 2 tenths: 0.4 of 1 less 0.6 times 0.8.
        objectionDue(x, new int[] {15, 15, 1, 0}, 10, 13, 1);
        objectionDue(x, new int[] {15, 15, 0, 0}, 1, 1, 1);
        // A grave without temper: the wind alone.
        objectionDue(x, new int[] {15, 15, 1, 1}, 0, 1, 0);
        objectionDue(x, new int[] {15, 15, 0, 1}, 0, 1, 0);
        objectionDue(x, new int[] {15, 15, 3, 3}, 0, 1, 0);
        objectionDue(x, new int[] {2, 15, 1, 0}, 0, 1, 0);
        // 0.5 of 1 less 0.5 times 0.9.
        objectionDue(x, new int[] {1, 2, 1, 2}, 10, 11, 4);
        x.move(2, 5);
        // 1 less 0.6 times 0.5, of 1 less that times 0.4.
        objectionDue(x, new int[] {1, 1, 3, 0}, 35, 44, 5);
        x.pick(0, 2);
        objectionDue(x, new int[] {1, 1, 3, 0}, 0, 1, 0);
        DeadAsked y = onHill(CALM + "grave 0 9 1 1; grave 0 9 0 1; horn 0 40; tree fir 0 1;");
        objectionDue(y, new int[] {1, 1, 0, 0}, 1, 1, 1);
    }

    private static void picksAreFound() {
        due("picks of no hill", new DeadAsked().picks(0, 0, 0, 0), STATE);
        DeadAsked x = onHill(HILL);
        due("matter 0", x.picks(0, 1, 0, 0), BAD);
        due("horns 16", x.picks(1, 16, 0, 0), BAD);
        due("hour 12", x.picks(1, 1, 12, 0), BAD);
        due("s below", x.picks(1, 1, 0, -1), BAD);
        due("s 1001", x.picks(1, 1, 0, 1001), BAD);
        due("nothing", x.picks(1, 1, 0, 300), 0);
        // Without tree 0 grave 0 lets it fall from tree 1; without tree 2 grave 2 has none.
        due("one", x.picks(1, 1, 0, 301), 4);
        due("one is enough", x.picks(1, 1, 0, 600), 4);
        due("all that grave 0 has", x.picks(1, 1, 0, 601), 7);
        due("all", x.picks(1, 1, 0, 1000), 7);
        due("s 0", x.picks(15, 15, 3, 0), 0);
        // In hour 3 through none: 0.4, 0.1, 0.7; without tree 1: 0.28.
        due("the worst", x.picks(1, 0, 3, 280), 2);
        due("two", x.picks(1, 0, 3, 281), 3);
        due("two, as told", x.picks(1, 0, 3, 700), 3);
        due("three", x.picks(1, 0, 3, 701), 7);
        due("nothing was picked", x.count(5), 6);
        DeadAsked y = onHill("winds 1 0 0 0 0 0 0 0 0 0 0 0; tree oak 0 1; tree fir 9 1; tree nut 18 1;");
        due("of several the least", y.picks(1, 0, 0, 900), 1);
        due("not the one that does not matter", y.picks(1, 0, 0, 1000), 5);
        // 0.9 five times: 0.59049.
        DeadAsked z = onHill(CALM + "grave 0 9 1 1; grave 0 9 1 1; grave 0 9 1 1; grave 0 9 1 1; grave 0 9 1 1;"
                + "horn 0 40; tree fir 0 1;");
        due("more than s", z.picks(1, 1, 0, 590), 0);
        due("just less than s", z.picks(1, 1, 0, 591), 1);
    }

    private static void councilDue(DeadAsked x, int[] asked, long above, long below) {
        String name = "council " + asked[0] + " " + asked[1] + " " + asked[2] + " " + asked[3] + " " + asked[4];
        Check.fraction(name, x.council(asked[0], asked[1], asked[2], asked[3], asked[4], 0),
                x.council(asked[0], asked[1], asked[2], asked[3], asked[4], 1), above, below);
    }

    private static void councilsAreTold() {
        due("council of no hill", new DeadAsked().council(99, 0, 9, 0, 0, 9), STATE);
        DeadAsked x = onHill(HILL);
        due("horns below", x.council(-1, 0, 0, 0, 1, 0), BAD);
        due("horns 16", x.council(16, 0, 0, 0, 1, 0), BAD);
        due("a below", x.council(1, -1, 0, 0, 1, 0), BAD);
        due("a 12", x.council(1, 12, 0, 0, 1, 0), BAD);
        due("row below", x.council(1, 0, -1, 0, 1, 0), BAD);
        due("row 8", x.council(1, 0, 8, 0, 1, 0), BAD);
        due("n 0", x.council(1, 0, 0, 0, 0, 0), BAD);
        due("n 3", x.council(1, 0, 0, 0, 3, 0), BAD);
        due("n below", x.council(1, 0, 0, 0, -1, 0), BAD);
        due("what below", x.council(1, 0, 0, 0, 1, -1), BAD);
        due("what 2", x.council(1, 0, 0, 0, 1, 2), BAD);
        due("hours beyond", x.council(1, 11, 0, 0, 2, 0), BAD);
        due("missing", x.council(1, 0, 0, 0, 1, 0), Check.NULL);
        x.row(0, 0, 4);
        x.set(0, 0, 1);
        x.set(0, 1, 2);
        x.set(0, 2, 16);
        due("i below", x.council(1, 0, 0, -1, 1, 0), Check.PLACE);
        due("i beyond", x.council(1, 0, 0, 4, 1, 0), Check.PLACE);
        due("n beyond", x.council(1, 0, 0, 3, 2, 0), Check.PLACE);
        due("i most", x.council(1, 0, 0, MOST_INT, 2, 0), Check.PLACE);
        due("item 16", x.council(1, 0, 0, 1, 2, 0), BAD);
        due("item 0", x.council(1, 0, 0, 3, 1, 0), BAD);
        councilDue(x, new int[] {1, 0, 0, 0, 1}, 3, 10);
        // 0.3, then in hour 1: 0.5 times 0.504.
        councilDue(x, new int[] {1, 0, 0, 0, 2}, 189, 2500);
        councilDue(x, new int[] {1, 11, 0, 0, 1}, 189, 1250);
        councilDue(x, new int[] {0, 4, 0, 0, 2}, 1, 1);
        due("fruit stays", x.count(5), 6);
        DeadAsked y = onHill("winds 3 3 3 3 3 3 3 3 3 3 3 3; grave 2 9 9 1; grave 2 9 9 1; grave 2 9 9 1; grave 2 9 9 1;"
                + "grave 2 9 9 1; horn 2 40; tree ash 0 1; tree ash 1 1; tree ash 3 1; tree ash 4 1;");
        y.row(7, 2, 2);
        y.set(7, 0, 1);
        y.set(7, 1, 15);
        councilDue(y, new int[] {1, 10, 7, 0, 2}, 1, 1000000000000000000L);
    }

    // ---- promises 22 and 23

    private static void imagesAreKept() {
        DeadAsked x = new DeadAsked();
        due("image below", x.image(-1), BAD);
        due("image 2", x.image(2), BAD);
        due("image of no hill", x.image(1), STATE);
        Check.read(x, HILL);
        due("image below", x.image(-1), BAD);
        due("image 2", x.image(2), BAD);
        x.move(0, 9);
        due("image 0", x.image(0), 1);
        due("acts stay", x.count(4), 1);
        x.move(0, 10);
        due("image 1", x.image(1), 1);
        due("restore 0", x.restore(0), 1);
        due("x of image 0", x.grave(0, 0), 9);
        due("restore 1", x.restore(1), 1);
        due("x of image 1", x.grave(0, 0), 10);
        x.move(0, 11);
        due("image 0 anew", x.image(0), 1);
        x.move(0, 12);
        x.restore(0);
        due("x of image 0 anew", x.grave(0, 0), 11);
    }

    private static void imagesAreRestored() {
        DeadAsked x = new DeadAsked();
        due("restore below", x.restore(-1), BAD);
        due("restore 2", x.restore(2), BAD);
        due("restore of none", x.restore(0), STATE);
        Check.read(x, HILL);
        due("none was kept", x.restore(0), STATE);
        x.crack(1);
        x.pick(2, 1);
        x.image(0);
        due("the other was not kept", x.restore(1), STATE);
        x.undo();
        x.undo();
        x.crack(0);
        x.pick(0, 2);
        x.move(2, 1);
        due("restore", x.restore(0), 1);
        due("no act can be undone", x.count(4), 0);
        due("undo", x.undo(), STATE);
        due("fruit", x.count(5), 5);
        due("horns", x.count(2), 1);
        due("not cracked", x.crack(0), 1);
        due("x", x.grave(2, 0), 12);
        x.move(2, 20);
        Check.read(x, CALM + "tree nut 9 7;");
        due("another hill", x.count(3), 1);
        due("restore the one before", x.restore(0), 1);
        graveDue(x, 0, 5, 0, 4, 1, 0, 1);
        graveDue(x, 2, 12, 9, 5, 15, 2, 1);
        due("trees", x.count(3), 4);
        due("kinds", x.kind(1), 4);
        due("x of a tree", x.tree(1, 0), 6);
        oddsDue(x, 1, 0, 3, 7, 250);
    }

    // ---- promises 24 to 27

    private static final String KINDS = CALM + "tree fir 3 1; tree ash 4 2; tree oak 5 3; tree nut 6 4;";

    private static void kindsAreTold() {
        due("kind of no hill", new DeadAsked().kind(0), BAD);
        DeadAsked x = onHill(KINDS);
        due("fir", x.kind(0), 5);
        due("ash", x.kind(1), 4);
        due("oak", x.kind(2), 3);
        due("nut", x.kind(3), 2);
        due("pear", onHill(HILL).kind(0), 1);
        due("below", x.kind(-1), BAD);
        due("beyond", x.kind(4), BAD);
    }

    private static void treesAreTakenAsKinds() {
        due("as of no hill", new DeadAsked().as(0, 0), BAD);
        String[] suits = {"100011", "100010", "111100", "111000"};
        DeadAsked x = onHill(KINDS);
        for (int tree = 0; tree < 4; tree++) {
            for (int kind = 0; kind < 6; kind++) {
                boolean such = suits[tree].charAt(kind) == '1';
                due("tree " + tree + " as " + kind, x.as(tree, kind), such ? tree : Check.KIND);
                due("status of it", x.status(), such ? 0 : 3);
            }
            due("kind below", x.as(tree, -1), BAD);
            due("kind 6", x.as(tree, 6), BAD);
        }
        DeadAsked y = onHill(CALM + "tree pear 0 0;");
        String pear = "110000";
        for (int kind = 0; kind < 6; kind++) {
            due("pear as " + kind, y.as(0, kind), pear.charAt(kind) == '1' ? 0 : Check.KIND);
        }
        due("tree below", x.as(-1, 0), BAD);
        due("tree beyond", x.as(4, 0), BAD);
    }

    private static void shapeDue(DeadAsked x, int tree, int what, long want, int... bodies) {
        String name = "shape " + tree + ", " + what;
        due(name, x.shape(tree, what), want);
        for (int i = 0; i < bodies.length; i++) {
            due(name + " trace " + i, x.trace(i), bodies[i]);
        }
        due(name + " trace ends", x.trace(bodies.length), NONE);
    }

    private static void shapesAreAsked() {
        due("shape of no hill", new DeadAsked().shape(0, 0), BAD);
        DeadAsked x = onHill(KINDS);
        shapeDue(x, 0, 0, 2, 14, 13, 10, 23, 20);
        shapeDue(x, 0, 1, 0, 23, 20);
        shapeDue(x, 1, 0, 2 - 31, 13, 10, 23, 20);
        shapeDue(x, 1, 1, 31, 23, 20);
        // MARK: twice (2 and 5, less 1000).
        shapeDue(x, 2, 0, -(3 - 1986), 12, 11, 10, 24, 22, 21, 20);
        shapeDue(x, 2, 1, -1986, 24, 22, 21, 20);
        shapeDue(x, 3, 0, 4 + 3 + 6 - 1000, 11, 10, 22, 21, 20);
        shapeDue(x, 3, 1, 3 + 6 - 1000, 22, 21, 20);
        DeadAsked y = onHill(CALM + "tree ash 0 0; tree pear 8 9;");
        shapeDue(y, 1, 0, 9 + 1 + 8, 11, 10, 21, 20);
        shapeDue(y, 1, 1, 9, 21, 20);
        due("tree below", y.shape(-1, 0), BAD);
        due("tree beyond", y.shape(2, 0), BAD);
        due("what below", y.shape(0, -1), BAD);
        due("what 2", y.shape(0, 2), BAD);
        due("the trace stays where refused", y.trace(0), 21);
        due("trace below", y.trace(-1), NONE);
        due("trace 16", y.trace(16), NONE);
        due("trace least", y.trace(LEAST_INT), NONE);
        Check.read(y, CALM);
        due("the trace stays with another hill", y.trace(1), 20);
    }

    // ---- promises 28 and 29

    private static void countsAreTold() {
        DeadAsked x = onHill(HILL);
        x.row(0, 0, 1);
        x.row(7, 0, 0);
        x.row(7, 1, 0);
        x.crack(1);
        x.feed(0, 3);
        long[] wants = {2, 4, 1, 4, 1, 6, 3, BAD};
        for (int what = 0; what < wants.length; what++) {
            due("count " + what, x.count(what), wants[what]);
        }
        due("count below", x.count(-1), BAD);
    }

    // As many of each as there can be: no call looks behind the last.
    private static void fullHill() {
        DeadAsked x = onHill("winds 3 3 3 3 3 3 3 3 3 3 3 1; grave 0 9 1 1; grave 1 9 1 1; grave 2 9 1 1; grave 3 9 1 1;"
                + "grave 4 9 5 1; horn 0 40; horn 1 40; horn 2 40; horn 3 5;"
                + "tree pear 0 1; tree pear 1 1; tree fir 2 1; tree oak 3 9;");
        graveDue(x, 4, 4, 9, 5, 1, 3, 15);
        due("graves of the last tree", x.tree(3, 3), 24);
        due("minds", x.minds(1, 8), 31);
        due("fruit", x.count(5), 12);
        oddsDue(x, 1, 0, 11, 72, 125);
        due("how", x.how(1, 5, 0, 11), 177);
        due("picks", x.picks(1, 15, 11, 1000), 15);
        objectionDue(x, new int[] {1, 15, 11, 3}, 110, 119, 24);
        due("ask", x.ask(1, 15, 11, 1) >> 4, 0);
        due("undo", x.undo(), 0);
        due("fruit again", x.count(5), 12);
        due("crack", x.crack(3), 1);
        due("horns", x.count(2), 3);
        due("move", x.move(4, 30), 4);
        due("image", x.image(1), 1);
        due("restore", x.restore(1), 1);
        graveDue(x, 4, 30, 9, 5, 1, NONE, 7);
    }

    private static void statusIsTold() {
        DeadAsked x = onHill(HILL);
        x.row(0, 0, -1);
        due("size", x.status(), 4);
        x.row(8, 0, -1);
        x.set(-1, 0, 0);
        x.copy(0, 0, 8, 0, 0);
        x.drop(8);
        x.as(0, 6);
        x.council(16, 0, 0, 0, 1, 0);
        due("refused calls leave it", x.status(), 4);
        x.row(0, 0, 4);
        due("row", x.status(), 0);
        x.set(1, 0, 0);
        due("set of none", x.status(), 1);
        x.minds(1, 1);
        x.feed(0, 1);
        x.undo();
        due("other calls leave it", x.status(), 1);
        x.set(0, 0, 1);
        due("set", x.status(), 0);
        x.set(0, 4, 1);
        due("place", x.status(), 2);
        x.copy(0, 0, 0, 1, 1);
        due("copy", x.status(), 0);
        x.as(0, 5);
        due("kind", x.status(), 3);
        x.as(0, 0);
        due("as", x.status(), 0);
        x.row(1, 1, 1);
        x.copy(0, 0, 1, 0, 1);
        due("store", x.status(), 5);
        x.drop(1);
        due("drop", x.status(), 0);
        x.drop(1);
        due("drop of none", x.status(), 1);
        x.council(1, 0, 0, 2, 1, 0);
        due("a council of bad items leaves it", x.status(), 1);
        x.council(1, 0, 0, 4, 1, 0);
        due("council of no place", x.status(), 2);
        x.council(1, 0, 0, 0, 1, 0);
        due("council", x.status(), 0);
        x.council(1, 0, 1, 0, 1, 0);
        due("council of no row", x.status(), 1);
    }
}
