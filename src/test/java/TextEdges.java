/** Promises 6 to 8: the tape, texts of hills and their faults. */
final class TextEdges {
    private static final String CALM = Hills.CALM;
    private static final String GRAVE = "grave 0 0 0 0;";
    private static final String HORN = "horn 0 1;";
    private static final String[] SORTS = {"pear", "nut", "oak", "ash", "fir"};
    private static final String TREES = "tree fir 0 0;tree fir 1 0;tree fir 2 0;tree fir 3 0;";

    private TextEdges() {
    }

    static void run() {
        tapeHas400Bytes();
        namesAreOfLetters();
        numbersAreOfFigures();
        signsAreOne();
        blanksAreTwoBytes();
        blanksStandAnywhere();
        partsStandInOrder();
        windsAreTwelve();
        gravesAreOfFour();
        gravesAreFiveAtMost();
        hornsAreOfTwo();
        hornsAreFourAtMost();
        treesAreOfSorts();
        treesHaveAnXOfTheirOwn();
        treesAreFourAtMost();
        aHillStandsInPlaceOfTheOneBefore();
        imagesAndRowsStay();
        faultsFirstAndLeast();
        faultsOfWhatCannotStand();
        faultsOfLongRuns();
        faultsOfTheEnd();
        faultsOfNumbers();
        faultsOfRoom();
        bytesComeHighestFirst();
        feedRefusesNumbers();
        feedIsFull();
        theTapeIsEmptyThen();
        faultsHaveAPlace();
        faultsHaveANumber();
    }

    private static void due(String what, long got, long want) {
        Sentences.due(what, got, want);
    }

    private static void readDue(String text, long graves) {
        DeadAsked x = new DeadAsked();
        due("'" + text + "'", Check.read(x, text), graves);
        due("fault of '" + text + "'", x.fault(), 0);
    }

    private static void faultDue(String text, int fault, int place) {
        DeadAsked x = new DeadAsked();
        due("place of '" + text + "'", Check.read(x, text), DeadAsked.NOT - 100 - place);
        due("fault of '" + text + "'", x.fault(), fault);
    }

    // The number between both texts: what is out of least..most is a fault 2 where the number begins.
    private static void numberDue(String ahead, String behind, int least, int most) {
        DeadAsked x = new DeadAsked();
        due("'" + ahead + least + behind + "'", Check.read(x, ahead + least + behind) < 0 ? 1 : 0, 0);
        due("'" + ahead + most + behind + "'", Check.read(x, ahead + most + behind) < 0 ? 1 : 0, 0);
        faultDue(ahead + (most + 1) + behind, 2, ahead.length());
        faultDue(ahead + 999 + behind, 2, ahead.length());
        if (least > 0) {
            faultDue(ahead + (least - 1) + behind, 2, ahead.length());
        }
        // Without it the numbers behind come too early: the sign cannot stand yet.
        faultDue(ahead + behind, 1, ahead.length() + behind.length() - 1);
    }

    // ---- the tape and its tokens

    private static void tapeHas400Bytes() {
        Sentences.holds(6, "TEXTS: THE TAPE has at most 400 bytes;");
        DeadAsked x = new DeadAsked();
        for (int n = 1; n <= 400; n++) {
            due("byte " + n, x.feed(n <= 370 ? ' ' : CALM.charAt(n - 371), 1), n);
        }
        due("no byte more", x.feed(' ', 1), Check.FULL);
        due("400 are read", x.hill(), 0);
        due("and room again", x.feed(' ', 1), 1);
    }

    private static void namesAreOfLetters() {
        Sentences.holds(7, "TOKENS: NAMES (letters a to z),");
        faultDue(CALM + "tree peara 0 0;", 1, 35);
        faultDue(CALM + "tree pearz 0 0;", 1, 35);
        faultDue(CALM + "tree pear` 0 0;", 1, 39);
        faultDue(CALM + "tree pear{ 0 0;", 1, 39);
        faultDue(CALM + "tree pearA 0 0;", 1, 39);
        faultDue(CALM + "tree pearZ 0 0;", 1, 39);
        faultDue(CALM + "tree pear\u00e1 0 0;", 1, 39);
        faultDue(CALM + "Tree pear 0 0;", 1, 30);
        faultDue(CALM + "treepear 0 0;", 1, 30);
        readDue(CALM + "tree pear0 0;", 0);
        oneLetterIsOther("", "winds", " 0 0 0 0 0 0 0 0 0 0 0 0;");
        oneLetterIsOther(CALM, "grave", " 0 0 0 0;");
        oneLetterIsOther(CALM, "horn", " 0 1;");
        oneLetterIsOther(CALM, "tree", " fir 0 0;");
        for (String sort : SORTS) {
            oneLetterIsOther(CALM + "tree ", sort, " 0 0;");
        }
    }

    private static void oneLetterIsOther(String ahead, String word, String behind) {
        due(ahead + word + behind, Check.read(new DeadAsked(), ahead + word + behind) < 0 ? 1 : 0, 0);
        for (int k = 0; k < word.length(); k++) {
            String other = word.substring(0, k) + "z" + word.substring(k + 1);
            faultDue(ahead + other + behind, 1, ahead.length());
            faultDue(ahead + word.substring(0, k) + word.substring(k + 1) + behind, 1, ahead.length());
        }
    }

    private static void numbersAreOfFigures() {
        Sentences.holds(7, "NUMBERS (figures, 3 at most),");
        readDue(CALM + "tree pear 009 009;", 0);
        readDue(CALM + "tree pear 000 000;", 0);
        faultDue(CALM + "tree pear 0009 0;", 1, 40);
        faultDue(CALM + "tree pear 0 0000;", 1, 42);
        faultDue(CALM + "tree pear 0/ 0;", 1, 41);
        faultDue(CALM + "tree pear 0: 0;", 1, 41);
        faultDue(CALM + "tree pear /0 0;", 1, 40);
        faultDue(CALM + "tree pear :0 0;", 1, 40);
        faultDue(CALM + "tree pear 00;", 1, 42);
        faultDue(CALM + "tree pear -1 0;", 1, 40);
        faultDue(CALM + "tree pear \u00b0 0;", 1, 40);
    }

    private static void signsAreOne() {
        Sentences.holds(7, "SIGNS ;");
        faultDue(CALM + "horn 0 1:", 1, 38);
        faultDue(CALM + "horn 0 1<", 1, 38);
        faultDue(CALM + "horn 0 1,", 1, 38);
        faultDue(CALM + "horn 0 1\u00bb", 1, 38);
        faultDue(CALM + "horn 0 1;;", 1, 39);
        readDue(CALM + "horn 0 1;", 0);
    }

    private static void blanksAreTwoBytes() {
        Sentences.holds(7, "bytes 32 and 10 ahead of,");
        readDue(" " + CALM, 0);
        readDue("\n" + CALM, 0);
        char[] others = {0, 9, 11, 13, 31, 33, 127, 128, 138, 160, 255};
        for (char other : others) {
            faultDue(other + CALM, 1, 0);
            faultDue(CALM + other, 1, 30);
            faultDue("winds" + other + "0", 1, 5);
        }
    }

    private static void blanksStandAnywhere() {
        Sentences.holds(7, "between, behind these, as many as wanted (none is needed where one ends without).");
        readDue(" ".repeat(370) + CALM, 0);
        readDue("\n".repeat(185) + CALM + " ".repeat(185), 0);
        readDue("winds" + " \n".repeat(185) + CALM.substring(5), 0);
        readDue("winds0 0 0 0 0 0 0 0 0 0 0 0;grave1 2 3 4;horn5 6;tree pear7 8;tree nut9 0;", 1);
        readDue(" winds 0\n0 0 0 0 0 0 0 0 0 0 0 ; grave 1 2 3 4 ;\nhorn 5 6 ; tree\npear 7 8 ; ", 1);
        faultDue("wind s 0", 1, 0);
        faultDue(CALM + "horn 11;", 1, 37);
        faultDue(CALM + "tree fir1 1;treefir 2 2;", 1, 42);
    }

    // ---- the hill of a text

    private static void partsStandInOrder() {
        Sentences.holds(7, "hill: winds { grave } { horn } { tree }.");
        String tree = "tree fir 0 0;";
        readDue(CALM, 0);
        readDue(CALM + GRAVE, 1);
        readDue(CALM + HORN, 0);
        readDue(CALM + tree, 0);
        readDue(CALM + GRAVE + tree, 1);
        readDue(CALM + GRAVE + HORN + tree, 1);
        faultDue(GRAVE, 1, 0);
        faultDue(HORN + CALM, 1, 0);
        faultDue(tree, 1, 0);
        faultDue(CALM + HORN + GRAVE, 1, 39);
        faultDue(CALM + tree + GRAVE, 1, 43);
        faultDue(CALM + tree + HORN, 1, 43);
        faultDue(CALM + CALM, 1, 30);
        faultDue(CALM + tree + CALM, 1, 43);
    }

    private static void windsAreTwelve() {
        Sentences.holds(7, "winds: 'winds' and 12 NUMBERS (0 to 3; by HOURS 0 to 11) ';'.");
        numberDue("winds ", " 0 0 0 0 0 0 0 0 0 0 0;", 0, 3);
        faultDue("winds 0 0 0 0 0 0 0 0 0 0 0 4;", 2, 28);
        faultDue("winds 0 0 0 0 0 0 0 0 0 0 0;", 1, 27);
        faultDue("winds 0 0 0 0 0 0 0 0 0 0 0 0 0;", 1, 30);
        faultDue("winds;", 1, 5);
        faultDue("winds 0 0 0 0 0 0 0 0 0 0 0 0", 1, 29);
        DeadAsked x = Hills.on("winds 3 2 1 0 1 2 3 0 3 1 1 2;tree nut 0 1;");
        int[] winds = {3, 2, 1, 0, 1, 2, 3, 0, 3, 1, 1, 2};
        long[][] odds = {{1, 1}, {9, 10}, {4, 5}, {7, 10}};
        for (int hour = 0; hour <= 11; hour++) {
            Sentences.fraction("hour " + hour, x.odds(1, 0, hour, 0), x.odds(1, 0, hour, 1), odds[winds[hour]][0],
                    odds[winds[hour]][1]);
        }
    }

    private static void gravesAreOfFour() {
        Sentences.holds(7, "grave: 'grave' X HEARS TEMPER AGAINST ';' (0 to 30; 0 to 9; 0 to 9; a set of TOPICS 0 to"
                + " 3, 0 to 15;");
        numberDue(CALM + "grave ", " 0 0 0;", 0, 30);
        numberDue(CALM + "grave 0 ", " 0 0;", 0, 9);
        numberDue(CALM + "grave 0 0 ", " 0;", 0, 9);
        numberDue(CALM + "grave 0 0 0 ", ";", 0, 15);
        faultDue(CALM + "grave 0 0 0 0 0;", 1, 44);
        faultDue(CALM + "grave 0 0 0 0", 1, 43);
        DeadAsked x = Hills.on(CALM + "grave 30 9 8 15;grave 0 0 0 0;");
        long[][] wants = {{30, 9, 8, 15}, {0, 0, 0, 0}};
        for (int what = 0; what < 4; what++) {
            due("most, " + what, x.grave(0, what), wants[0][what]);
            due("least, " + what, x.grave(1, what), wants[1][what]);
        }
    }

    private static void gravesAreFiveAtMost() {
        Sentences.holds(7, "GRAVES 0 .. 4, 5 at most).");
        DeadAsked x = Hills.on(CALM + "grave 4 0 0 0;grave 3 0 0 0;grave 2 0 0 0;grave 1 0 0 0;grave 9 0 0 0;");
        due("graves", x.count(1), 5);
        due("the first", x.grave(0, 0), 4);
        due("the last", x.grave(4, 0), 9);
        due("no grave 5", x.grave(5, 0), Check.BAD);
        readDue(CALM + GRAVE.repeat(5), 5);
        readDue(CALM + GRAVE.repeat(5) + HORN + TREES, 5);
        faultDue(CALM + GRAVE.repeat(6), 3, 100);
    }

    private static void hornsAreOfTwo() {
        Sentences.holds(7, "horn: 'horn' X LOUD ';' (0 to 30; 1 to 40;");
        numberDue(CALM + "horn ", " 1;", 0, 30);
        numberDue(CALM + "horn 0 ", ";", 1, 40);
        faultDue(CALM + "horn 0 1 1;", 1, 39);
        faultDue(CALM + "horn 0 1", 1, 38);
        DeadAsked x = Hills.on(CALM + "grave 0 0 0 0;grave 30 9 0 0;horn 30 40;horn 0 1;horn 30 1;");
        due("40 over 30", x.grave(0, 5), 1);
        due("1 with 9 more", x.grave(1, 5), 5);
    }

    private static void hornsAreFourAtMost() {
        Sentences.holds(7, "HORNS 0 .. 3, 4 at most).");
        DeadAsked x = Hills.on(CALM + "grave 0 0 0 0;horn 0 9;horn 0 9;horn 0 9;horn 0 10;");
        due("horns", x.count(2), 4);
        due("the last", x.grave(0, 5), 8);
        due("no horn 4", x.crack(4), Check.BAD);
        readDue(CALM + HORN.repeat(4), 0);
        readDue(CALM + HORN.repeat(4) + TREES, 0);
        faultDue(CALM + HORN.repeat(5), 3, 66);
    }

    private static void treesAreOfSorts() {
        Sentences.holds(7, "tree: 'tree' SORT X FRUIT ';' (SORT: 'pear' | 'nut' | 'oak' | 'ash' | 'fir';");
        for (int k = 0; k < 5; k++) {
            due(SORTS[k], Hills.on(CALM + "tree " + SORTS[k] + " 0 0;").kind(0), k + 1);
            faultDue(CALM + "tree " + SORTS[k] + "s 0 0;", 1, 35);
            faultDue(CALM + SORTS[k] + " 0 0;", 1, 30);
        }
        faultDue(CALM + "tree tree 0 0;", 1, 35);
        faultDue(CALM + "tree 0 0;", 1, 35);
        faultDue(CALM + "tree;", 1, 34);
        faultDue(CALM + "tree fir 0 0 0;", 1, 43);
        faultDue(CALM + "tree fir 0 0", 1, 42);
    }

    private static void treesHaveAnXOfTheirOwn() {
        Sentences.holds(7, "0 to 30, each X once; 0 to 9;");
        numberDue(CALM + "tree fir ", " 0;", 0, 30);
        numberDue(CALM + "tree fir 0 ", ";", 0, 9);
        DeadAsked x = Hills.on(CALM + "tree fir 30 9;tree fir 0 0;");
        due("most X", x.tree(0, 0), 30);
        due("most fruit", x.tree(0, 1), 9);
        due("least X", x.tree(1, 0), 0);
        due("least fruit", x.tree(1, 1), 0);
        faultDue(CALM + "tree fir 0 0;tree ash 0 1;", 2, 52);
        faultDue(CALM + "tree fir 30 0;tree fir 1 0;tree fir 2 0;tree fir 30 0;", 2, 79);
        faultDue(CALM + "tree fir 9 0;tree fir 1 0;tree fir 2 0;tree fir 002 0;", 2, 78);
        DeadAsked y = Hills.on(CALM + "tree fir 7 0;");
        due("an X of the hill before", Check.read(y, CALM + "tree fir 7 0;"), 0);
        readDue(CALM + "grave 5 0 0 0;grave 5 0 0 0;horn 5 1;horn 5 1;tree fir 5 0;", 2);
    }

    private static void treesAreFourAtMost() {
        Sentences.holds(7, "TREES 0 .. 3, 4 at most).");
        DeadAsked x = Hills.on(CALM + TREES);
        due("trees", x.count(3), 4);
        due("the last", x.tree(3, 0), 3);
        due("no tree 4", x.tree(4, 0), Check.BAD);
        faultDue(CALM + TREES + "tree fir 4 0;", 3, 82);
    }

    private static void aHillStandsInPlaceOfTheOneBefore() {
        Sentences.holds(7, "A HILL that is read stands in place of the one before (none at first): no ACT was done,"
                + " no HORN is CRACKED;");
        DeadAsked x = new DeadAsked();
        due("none at first", x.minds(1, 1), Check.STATE);
        String text = CALM + "grave 0 0 0 0;horn 0 10;tree fir 0 4;";
        due("the first", Check.read(x, text), 1);
        x.crack(0);
        x.pick(0, 1);
        x.move(0, 4);
        due("the same again", Check.read(x, text), 1);
        due("no act was done", x.count(4), 0);
        due("none can be undone", x.undo(), Check.STATE);
        due("no horn is cracked", x.count(2), 1);
        due("it is heard", x.grave(0, 5), 1);
        due("fruit as told", x.tree(0, 1), 4);
        due("X as told", x.grave(0, 0), 0);
        due("it can crack", x.crack(0), 1);
        due("less than before", Check.read(x, CALM), 0);
        due("no graves", x.count(1), 0);
        due("no horns", x.count(2), 0);
        due("no trees", x.count(3), 0);
        due("a hill all the same", x.minds(1, 1), 0);
    }

    private static void imagesAndRowsStay() {
        Sentences.holds(7, "IMAGES and ROWS stay.");
        DeadAsked x = Hills.on(CALM + GRAVE);
        x.row(3, 0, 2);
        x.set(3, 1, 7);
        x.image(1);
        due("another", Check.read(x, CALM + "tree nut 0 3;"), 0);
        due("the rows", x.count(0), 1);
        due("its items", x.council(0, 0, 3, 1, 1, 0), 1);
        due("the image", x.restore(1), 1);
        due("the hill that it kept", x.count(1), 1);
        due("the other was not kept", x.restore(0), Check.STATE);
    }

    // ---- faults

    private static void faultsFirstAndLeast() {
        Sentences.holds(7, "FAULTS, the first TOKEN that has one (its first byte), of one TOKEN the least:");
        faultDue("winds 0 4 x", 2, 8);
        faultDue("winds 0 x 4", 1, 8);
        faultDue("  winds 0 044", 2, 10);
        faultDue(CALM + "grave 31 10 0 0;", 2, 36);
        faultDue(CALM + "grave 0 10 99 x", 2, 38);
        // A number of four figures that is too great, a number too many that is too great, a word too late and too
        // often.
        faultDue("winds 4444", 1, 6);
        faultDue("winds 0 0 0 0 0 0 0 0 0 0 0 0 4", 1, 30);
        faultDue(CALM + GRAVE.repeat(5) + HORN + "grave", 1, 109);
        faultDue(CALM + HORN.repeat(4) + "tree fir 0 0;horn", 1, 79);
        faultDue(CALM + "tree fir 0 0;tree fir 0000 0;", 1, 52);
        faultDue(CALM + "tree fir 0 0;tree fir 31 0;", 2, 52);
    }

    private static void faultsOfWhatCannotStand() {
        Sentences.holds(7, "1 it cannot stand there, or is none");
        faultDue("0", 1, 0);
        faultDue(";", 1, 0);
        faultDue("grave", 1, 0);
        faultDue("winds winds", 1, 6);
        faultDue(CALM + ";", 1, 30);
        faultDue(CALM + "3", 1, 30);
        faultDue(CALM + "pear", 1, 30);
        faultDue(CALM + "grave ;", 1, 36);
        faultDue(CALM + "grave grave", 1, 36);
        faultDue(CALM + "grave 0 0 0 x", 1, 42);
        faultDue(CALM + "horn 0 1 horn", 1, 39);
        faultDue(CALM + "tree nut pear", 1, 39);
        faultDue(CALM + "?", 1, 30);
        faultDue("?" + CALM, 1, 0);
    }

    private static void faultsOfLongRuns() {
        Sentences.holds(7, "(a run of four figures or more, at its first;");
        faultDue("winds 0000", 1, 6);
        faultDue("winds 00000000000000", 1, 6);
        faultDue("winds 0 0 0 0 0 0 0 0 0 0 0 0000;", 1, 28);
        faultDue("winds 000 1000", 1, 10);
        faultDue("0000", 1, 0);
        faultDue(CALM + "horn 0 4294967297;", 1, 37);
        readDue("winds 000 001 002 003 0 0 0 0 0 0 0 000;", 0);
    }

    private static void faultsOfTheEnd() {
        Sentences.holds(7, "the end: how many bytes there are);");
        faultDue("", 1, 0);
        faultDue(" ", 1, 1);
        faultDue(" ".repeat(400), 1, 400);
        faultDue("winds", 1, 5);
        faultDue("winds \n ", 1, 8);
        for (int bytes = 6; bytes < 30; bytes++) {
            faultDue(CALM.substring(0, bytes), 1, bytes);
        }
        faultDue(CALM + "grave", 1, 35);
        faultDue(CALM + "horn 1 ", 1, 37);
        faultDue(CALM + "tree oak 1 1 ", 1, 43);
        // What was read before is no part of a text.
        DeadAsked x = Hills.on(CALM);
        due("half a text, where a whole one was", Check.read(x, CALM.substring(0, 16)), DeadAsked.NOT - 116);
        due("an empty one", x.hill(), DeadAsked.NOT - 100);
        Check.read(x, "windsandmore");
        due("a name ends with the bytes", Check.read(x, "winds"), DeadAsked.NOT - 105);
        Check.read(x, "winds 0 123");
        due("a number ends with the bytes", Check.read(x, "winds 0 1"), DeadAsked.NOT - 109);
        Check.read(x, "winds 0 0;;");
        due("none comes behind them", Check.read(x, "winds 0 0"), DeadAsked.NOT - 109);
    }

    private static void faultsOfNumbers() {
        Sentences.holds(7, "2 a NUMBER that is not as told (X of a tree told twice, too);");
        faultDue("winds 4", 2, 6);
        faultDue("winds 999", 2, 6);
        faultDue(CALM + "grave 31", 2, 36);
        faultDue(CALM + "horn 0 0", 2, 37);
        faultDue(CALM + "horn 0 000;", 2, 37);
        faultDue(CALM + "tree oak 3 1;tree nut 3", 2, 52);
        faultDue(CALM + "tree oak 3 1;tree nut 003 1;", 2, 52);
        faultDue(CALM + "tree oak 30 1;tree nut 3 1;tree ash 30 1;", 2, 66);
    }

    private static void faultsOfRoom() {
        Sentences.holds(7, "3 more of a sort than there is room for (its word).");
        faultDue(CALM + GRAVE.repeat(5) + "grave", 3, 100);
        faultDue(CALM + GRAVE.repeat(5) + " \ngrave x", 3, 102);
        faultDue(CALM + HORN.repeat(4) + "horn 31 0;", 3, 66);
        faultDue(CALM + TREES + "tree elm 0 0;", 3, 82);
        faultDue(CALM + TREES + "tree fir 0 0;", 3, 82);
        faultDue(CALM + GRAVE.repeat(5) + "graves", 1, 100);
        faultDue(CALM + TREES + "trees", 1, 82);
    }

    // ---- promises 6 to 8

    private static void bytesComeHighestFirst() {
        Sentences.holds(6, "The lowest n bytes of w (1 to 8), the highest of them first, come behind the tape: how"
                + " many it has.");
        DeadAsked x = new DeadAsked();
        due("5 of 8", x.feed(0x78787877696E6473L, 5), 5);
        due("8", x.feed(0x2030203020302030L, 8), 13);
        due("8 more", x.feed(0x2030203020302030L, 8), 21);
        due("7", x.feed(0x7820302030203020L, 7), 28);
        due("1 of 8", x.feed(0x7878787878787830L, 1), 29);
        due("1", x.feed(';', 1), 30);
        due("a hill", x.hill(), 0);
        due("a byte with its sign", x.feed(-1L, 1), 1);
        due("8 with their signs", x.feed(-1L, 8), 9);
        due("a fault at the first", x.hill(), DeadAsked.NOT - 100);
    }

    private static void feedRefusesNumbers() {
        Sentences.holds(6, "BAD: n;");
        Sentences.ends("n", 1, 8, v -> new DeadAsked().feed(0, v));
    }

    private static void feedIsFull() {
        Sentences.holds(6, "FULL: none comes.");
        for (int n = 1; n <= 8; n++) {
            DeadAsked x = new DeadAsked();
            Check.feedText(x, CALM + " ".repeat(371 - n));
            due("no room for " + n, x.feed(0, n), Check.FULL);
            due("none came", x.count(6), 401 - n);
            due("nothing is read of it", x.hill(), 0);
            due("after that there is room", x.feed(0, n), n);
        }
        for (int n = 1; n <= 8; n++) {
            DeadAsked x = new DeadAsked();
            Check.feedText(x, " ".repeat(400 - n));
            due("just room for " + n, x.feed(0, n), 400);
        }
    }

    private static void theTapeIsEmptyThen() {
        Sentences.holds(7, "The tape, empty then, is read: how many GRAVES there are.");
        DeadAsked x = new DeadAsked();
        for (int graves = 0; graves <= 5; graves++) {
            due(graves + " graves", Check.read(x, CALM + GRAVE.repeat(graves)), graves);
            due("empty then", x.count(6), 0);
        }
        Check.read(x, "winds 9");
        due("empty behind a fault, too", x.count(6), 0);
        due("a whole text behind a fault", Check.read(x, CALM + GRAVE), 1);
        due("nothing is read twice", x.hill(), DeadAsked.NOT - 100);
    }

    private static void faultsHaveAPlace() {
        Sentences.holds(7, "NOT less 100 less the place of a FAULT: all but the tape, and what fault() tells,"
                + " stays.");
        DeadAsked x = new DeadAsked();
        due("place 0", x.hill(), -9000000000000000100L);
        due("no hill", x.image(0), Check.STATE);
        due("place 400", Check.read(x, " ".repeat(400)), -9000000000000000500L);
        String text = "winds 1 0 0 0 0 0 0 0 0 0 0 0;grave 3 0 5 1;horn 3 10;horn 3 10;tree oak 3 4;";
        Check.read(x, text);
        x.row(2, 0, 1);
        x.set(2, 0, 15);
        x.set(2, 1, 0);
        x.image(0);
        x.crack(1);
        x.move(0, 4);
        x.pick(0, 1);
        x.shape(0, 1);
        // A fault at the very last token: all ahead of it was read.
        due("a fault", Check.read(x, "winds 3 3 3 3 3 3 3 3 3 3 3 3;grave 9 9 9 9;horn 9 9;tree ash 9 9"),
                DeadAsked.NOT - 165);
        due("the tape", x.count(6), 0);
        due("its number", x.fault(), 1);
        due("status", x.status(), 2);
        due("the trace", x.trace(0), 24);
        due("graves", x.grave(0, 0), 4);
        due("trees", x.tree(0, 1), 3);
        due("cracked horns", x.grave(0, 5), 0);
        due("horns", x.count(2), 1);
        Sentences.fraction("winds", x.odds(1, 0, 0, 0), x.odds(1, 0, 0, 1), 9, 10);
        due("rows", x.council(0, 1, 2, 0, 1, 0), 1);
        due("acts", x.undo(), 2);
        due("the act undone", x.tree(0, 1), 4);
        due("images", x.restore(0), 1);
        due("as the image kept it", x.count(2), 2);
    }

    private static void faultsHaveANumber() {
        Sentences.holds(8, "The number of the latest FAULT (a HILL that is read leaves it); 0 before one.");
        DeadAsked x = new DeadAsked();
        due("before one", x.fault(), 0);
        Check.read(x, CALM);
        due("still before one", x.fault(), 0);
        Check.read(x, "winds 4");
        due("2", x.fault(), 2);
        Check.read(x, CALM);
        due("a hill leaves it", x.fault(), 2);
        Check.read(x, CALM + TREES + "tree");
        due("3", x.fault(), 3);
        due("told again", x.fault(), 3);
        x.hill();
        due("1, of an empty tape", x.fault(), 1);
    }
}
