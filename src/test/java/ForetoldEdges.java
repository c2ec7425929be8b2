/** Promises 16 to 23: who minds, odds, what follows from them, councils and images. */
final class ForetoldEdges {
    private static final String CALM = Hills.CALM;
    // All that can be: the greatest fractions, and an answer for each number that is as told.
    private static final String FULL_HILL = Hills.winds(3) + "grave 2 9 9 1;".repeat(5) + "horn 2 40;".repeat(4)
            + "tree ash 0 1;tree ash 1 1;tree ash 3 1;tree ash 4 1;";

    private ForetoldEdges() {
    }

    static void run() {
        mattersAre1To15();
        hornsOfNoneCountForNothing();
        gravesMindByThree();
        mindsTellsGraves();
        mindsRefusesNumbers();
        windsBlow();
        fruitFalls();
        mattersPass();
        oddsAreFractions();
        oddsRefuseNumbers();
        waysHaveQHearers();
        waysAreOfTheGreatestOdds();
        waysAreTheFirst();
        thereMayBeNoWay();
        waysAreOfHoursInOrder();
        howRefusesNumbers();
        objectionsAreFractions();
        nothingCanFall();
        whoHasATemper();
        objectionsAreToldInThree();
        fellRefusesNumbers();
        picksAreTheFewest();
        picksReachS();
        picksAreTheLeast();
        picksAreNeverNone();
        gravesHaveTreesOfThoseLeft();
        picksAreOf0To1000();
        picksRefuseNumbers();
        councilsPassHourByHour();
        councilsAreOf1Or2();
        councilRefusesNumbers();
        councilRefusesHoursBeyond();
        councilFindsMissingRows();
        councilFindsNoPlace();
        councilRefusesItems();
        imagesAreKept();
        imagesRefuseNumbers();
        imagesRestore();
        imagesNeedAHill();
        hillsNeedImages();
    }

    private static void due(String what, long got, long want) {
        Sentences.due(what, got, want);
    }

    private static void oddsDue(String what, DeadAsked x, int[] asked, long above, long below) {
        Sentences.fraction(what, x.odds(asked[0], asked[1], asked[2], 0), x.odds(asked[0], asked[1], asked[2], 1),
                above, below);
    }

    private static void fellDue(String what, DeadAsked x, int[] asked, long above, long below) {
        Sentences.fraction(what, x.fell(asked[0], asked[1], asked[2], asked[3], 0), x.fell(asked[0], asked[1],
                asked[2], asked[3], 1), above, below);
    }

    private static void councilDue(String what, DeadAsked x, int[] asked, long above, long below) {
        Sentences.fraction(what, x.council(asked[0], asked[1], asked[2], asked[3], asked[4], 0), x.council(asked[0],
                asked[1], asked[2], asked[3], asked[4], 1), above, below);
    }

    private static int[] asked(int... numbers) {
        return numbers;
    }

    // ---- promise 16

    private static void mattersAre1To15() {
        Sentences.holds(16, "A MATTER is a set of TOPICS (1 to 15).");
        DeadAsked x = Hills.on(CALM + "grave 0 9 0 1;grave 0 9 0 8;grave 0 9 0 15;grave 0 9 0 0;horn 0 9;"
                + "tree fir 0 1;");
        due("the first topic alone", x.minds(1, 1), 5);
        due("the last topic alone", x.minds(8, 1), 6);
        due("all topics", x.minds(15, 1), 7);
        due("no topic", x.minds(0, 1), Check.BAD);
        due("a topic 4", x.minds(16, 1), Check.BAD);
        due("a topic 4 with others", x.minds(17, 1), Check.BAD);
        due("below none", x.minds(-1, 1), Check.BAD);
    }

    private static void hornsOfNoneCountForNothing() {
        Sentences.holds(16, "It is asked through a set of HORNS (0 to 15; bits of none count for nothing) in an HOUR"
                + " (0 to 11):");
        DeadAsked x = Hills.on("winds 1 0 0 0 0 0 0 0 0 0 0 2;grave 0 9 5 1;horn 0 9;horn 30 9;tree nut 0 1;");
        due("no horns", x.minds(1, 0), 0);
        due("all that could be", x.minds(1, 15), 1);
        due("of none alone", x.minds(1, 12), 0);
        due("of none, and one that is not heard", x.minds(1, 14), 0);
        due("of none, and one that is heard", x.minds(1, 13), 1);
        oddsDue("of none, in the first hour", x, asked(1, 12, 0), 9, 10);
        oddsDue("one that is, in the last hour", x, asked(1, 13, 11), 2, 5);
        DeadAsked y = Hills.on(CALM + "grave 0 9 5 1;tree nut 0 1;");
        due("on a hill without horns", y.minds(1, 15), 0);
        // Horns that another hill had are of none here.
        DeadAsked z = new DeadAsked();
        for (int k = 0; k < 3; k++) {
            Check.read(z, CALM + "horn 0 40;horn 0 40;horn 0 40;horn 0 40;");
        }
        Check.read(z, CALM + "grave 0 9 5 1;tree nut 0 1;");
        due("on a hill without horns by now", z.minds(1, 15), 0);
    }

    private static void gravesMindByThree() {
        Sentences.holds(16, "a GRAVE MINDS, if it HEARS one of these, is AGAINST some TOPIC of it, and has a TREE.");
        DeadAsked x = Hills.on(CALM + "grave 3 9 0 3;grave 3 0 0 3;grave 3 9 0 4;grave 14 9 0 3;grave 3 9 0 2;"
                + "horn 3 9;horn 14 9;tree fir 0 1;");
        due("not who does not hear, is not against, or has no tree; by one topic of two", x.minds(3, 1), 17);
        due("by another topic", x.minds(4, 1), 4);
        due("by the horn of another", x.minds(15, 2), 0);
        due("by one of two horns", x.minds(1, 3), 1);
        x.pick(0, 1);
        due("none has a tree", x.minds(15, 3), 0);
    }

    private static void mindsTellsGraves() {
        Sentences.holds(16, "GRAVES that MIND (bits).");
        DeadAsked x = Hills.on(FULL_HILL);
        due("all five", x.minds(1, 8), 31);
        due("none", x.minds(14, 15), 0);
        x.move(0, 30);
        due("not the first", x.minds(1, 1), 30);
        x.move(4, 30);
        due("nor the last", x.minds(1, 1), 14);
    }

    private static void mindsRefusesNumbers() {
        Sentences.holds(16, "BAD; STATE: no HILL (ahead of BAD).");
        DeadAsked x = Hills.on(FULL_HILL);
        Sentences.ends("matter", 1, 15, v -> x.minds(v, 1));
        Sentences.ends("horns", 0, 15, v -> x.minds(1, v));
        DeadAsked y = new DeadAsked();
        due("no hill", y.minds(1, 0), Check.STATE);
        due("no hill, no matter", y.minds(0, 0), Check.STATE);
        due("no hill, no horns", y.minds(1, 16), Check.STATE);
    }

    // ---- promise 17

    private static void windsBlow() {
        Sentences.holds(17, "BLOWN of a TREE with FRUIT by a wind w: LOOSE times w (in tenths).");
        String[] sorts = {"pear", "nut", "oak", "ash", "fir"};
        int[] loose = {2, 1, 1, 3, 0};
        for (int w = 0; w <= 3; w++) {
            for (int k = 0; k < 5; k++) {
                DeadAsked x = Hills.on(Hills.winds(w) + "tree " + sorts[k] + " 0 1;");
                long tenths = 10 - loose[k] * w;
                long common = tenths == 10 ? 10 : tenths == 5 ? 5 : tenths % 2 == 0 ? 2 : 1;
                oddsDue(sorts[k] + " by " + w, x, asked(1, 0, 5), tenths / common, 10 / common);
            }
        }
        oddsDue("a tree without fruit", Hills.on(Hills.winds(3) + "tree ash 0 0;"), asked(1, 0, 5), 1, 1);
    }

    private static void fruitFalls() {
        Sentences.holds(17, "FALLS: from a TREE with FRUIT something falls in the HOUR: by the wind with BLOWN"
                + " tenths, by each GRAVE that MINDS, and whose TREE it is, with TEMPER tenths, each by itself.");
        DeadAsked x = Hills.on("winds 0 3 0 0 0 0 0 0 0 0 0 0;grave 0 9 5 1;grave 0 9 5 1;grave 20 9 9 1;"
                + "grave 0 9 0 1;grave 0 0 9 1;horn 0 9;horn 20 9;tree pear 0 1;tree fir 20 0;");
        oddsDue("two graves, each by itself", x, asked(1, 1, 0), 1, 4);
        oddsDue("and the wind by itself", x, asked(1, 1, 1), 1, 10);
        oddsDue("the wind alone", x, asked(2, 1, 1), 2, 5);
        oddsDue("a grave without a tree", x, asked(1, 2, 0), 1, 1);
        x.pick(0, 1);
        oddsDue("of no fruit", x, asked(1, 3, 1), 1, 1);
    }

    private static void mattersPass() {
        Sentences.holds(17, "A MATTER PASSES, if from no TREE something falls.");
        oddsDue("no trees", Hills.on(Hills.winds(3) + "grave 0 9 9 1;horn 0 40;"), asked(1, 1, 0), 1, 1);
        oddsDue("four trees", Hills.on(Hills.winds(1) + "tree nut 0 1;tree nut 9 1;tree nut 18 1;tree nut 27 1;"),
                asked(1, 0, 0), 6561, 10000);
        oddsDue("two of them with fruit", Hills.on(Hills.winds(1) + "tree nut 0 0;tree nut 9 1;tree nut 18 1;"
                + "tree nut 27 0;"), asked(1, 0, 0), 81, 100);
        Sentences.holds(17, "ODDS that it PASSES: a fraction.");
        oddsDue("the least that can be", Hills.on(FULL_HILL), asked(1, 1, 0), 1, 1000000000);
        oddsDue("the greatest that can be", Hills.on(CALM + "tree ash 0 9;"), asked(15, 15, 11), 1, 1);
    }

    private static void oddsAreFractions() {
        Sentences.holds(17, "ODDS: above (what = 0), below (1).");
        DeadAsked x = Hills.on("winds 3 0 0 0 0 0 0 0 0 0 0 1;tree ash 0 1;");
        due("above, first hour", x.odds(1, 0, 0, 0), 1);
        due("below, first hour", x.odds(1, 0, 0, 1), 10);
        due("above, last hour", x.odds(1, 0, 11, 0), 7);
        due("below, last hour", x.odds(1, 0, 11, 1), 10);
    }

    private static void oddsRefuseNumbers() {
        Sentences.holds(17, "BAD; STATE: no HILL (ahead of BAD).");
        DeadAsked x = Hills.on(FULL_HILL);
        Sentences.ends("matter", 1, 15, v -> x.odds(v, 1, 0, 0));
        Sentences.ends("horns", 0, 15, v -> x.odds(1, v, 0, 0));
        Sentences.ends("hour", 0, 11, v -> x.odds(1, 1, v, 0));
        Sentences.ends("what", 0, 1, v -> x.odds(1, 1, 0, v));
        DeadAsked y = new DeadAsked();
        due("no hill", y.odds(1, 0, 0, 0), Check.STATE);
        due("no hill, no matter", y.odds(0, 0, 0, 0), Check.STATE);
        due("no hill, no horns", y.odds(1, 16, 0, 0), Check.STATE);
        due("no hill, no hour", y.odds(1, 0, 12, 0), Check.STATE);
        due("no hill, no such what", y.odds(1, 0, 0, 2), Check.STATE);
    }

    // ---- promise 18

    private static void waysHaveQHearers() {
        Sentences.holds(18, "HOW: of sets of HORNS by which at least q GRAVES (0 to 5) HEAR, and HOURS from a to b,");
        DeadAsked x = Hills.on(CALM + "grave 0 9 0 0;grave 0 9 0 0;grave 15 9 0 0;grave 30 9 0 0;grave 30 9 0 0;"
                + "horn 0 1;horn 15 1;horn 30 1;");
        long[] wants = {0, 1, 1, 3, 5, 7};
        for (int q = 0; q <= 5; q++) {
            due("at least " + q, x.how(1, q, 0, 0), wants[q]);
        }
        x.crack(2);
        due("3 without a cracked one", x.how(1, 3, 0, 0), 3);
        due("4 without a cracked one", x.how(1, 4, 0, 0), DeadAsked.NONE);
        DeadAsked y = Hills.on("winds 0 1 0 0 0 0 0 0 0 0 1 0;tree nut 0 1;");
        due("one hour", y.how(1, 0, 1, 1), 16);
        due("the first hour is of them", y.how(1, 0, 0, 1), 0);
        due("the last hour is of them", y.how(1, 0, 10, 11), 176);
        due("hours outside are not", y.how(1, 0, 10, 10), 160);
    }

    private static void waysAreOfTheGreatestOdds() {
        Sentences.holds(18, "the ones by which ODDS are greatest;");
        DeadAsked x = Hills.on("winds 3 2 3 1 3 3 3 3 3 3 3 2;grave 0 9 2 1;grave 30 9 1 1;horn 0 9;horn 30 9;"
                + "tree nut 0 1;tree fir 30 1;");
        due("the calmest hour, the milder grave", x.how(1, 1, 0, 11), 16 * 3 + 2);
        due("none need hear", x.how(1, 0, 0, 11), 16 * 3);
        due("both", x.how(1, 2, 4, 11), 16 * 11 + 3);
        due("a matter that none is against", x.how(2, 1, 0, 2), 16 + 1);
    }

    private static void waysAreTheFirst() {
        Sentences.holds(18, "of several the first HOUR, then the least as bits: 16 times the HOUR, and the set;");
        DeadAsked x = Hills.on("winds 1 0 0 1 0 0 0 0 0 0 0 0;grave 0 9 2 1;horn 30 1;horn 0 9;horn 0 9;horn 0 9;"
                + "tree nut 0 1;");
        due("the first of several hours, the least of several sets", x.how(1, 1, 0, 11), 16 + 2);
        due("behind it", x.how(1, 1, 2, 11), 32 + 2);
        due("the last hour", x.how(1, 1, 11, 11), 176 + 2);
        due("the first hour", x.how(1, 1, 0, 0), 2);
        x.crack(1);
        due("the next set", x.how(1, 1, 0, 11), 16 + 4);
        due("no set of some, where none is as good", x.how(2, 0, 0, 11), 16);
    }

    private static void thereMayBeNoWay() {
        Sentences.holds(18, "16 times the HOUR, and the set; NONE.");
        due("no graves", Hills.on(CALM + "horn 0 40;").how(1, 1, 0, 11), -1000000);
        due("no horns", Hills.on(CALM + "grave 0 9 0 0;").how(1, 1, 0, 11), -1000000);
        due("none are needed", Hills.on(CALM).how(1, 0, 11, 11), 176);
        due("five of five", Hills.on(FULL_HILL).how(1, 5, 0, 11), 1);
        String four = CALM + "grave 0 9 0 0;".repeat(4) + "horn 0 9;";
        due("four of four", Hills.on(four).how(1, 4, 0, 0), 1);
        due("five of four", Hills.on(four).how(1, 5, 0, 0), -1000000);
    }

    private static void waysAreOfHoursInOrder() {
        Sentences.holds(18, "HOW (HOURS a to b, a no more than b); NONE.");
        DeadAsked x = Hills.on(FULL_HILL);
        due("a as b", x.how(1, 0, 5, 5), 80);
        due("a less than b", x.how(1, 0, 4, 5), 64);
        due("a more than b", x.how(1, 0, 5, 4), Check.BAD);
        due("the most more than the least", x.how(1, 0, 11, 0), Check.BAD);
        for (int horn = 0; horn < 4; horn++) {
            x.crack(horn);
        }
        due("none of these hours, as no grave hears", x.how(1, 1, 0, 11), -1000000);
    }

    private static void howRefusesNumbers() {
        Sentences.holds(18, "BAD; STATE: no HILL (ahead of BAD).");
        DeadAsked x = Hills.on(FULL_HILL);
        Sentences.ends("matter", 1, 15, v -> x.how(v, 0, 0, 0));
        Sentences.ends("q", 0, 5, v -> x.how(1, v, 0, 0));
        Sentences.ends("a", 0, 11, v -> x.how(1, 0, v, 11));
        Sentences.ends("b", 0, 11, v -> x.how(1, 0, 0, v));
        DeadAsked y = new DeadAsked();
        due("no hill", y.how(1, 0, 0, 0), Check.STATE);
        due("no hill, no matter", y.how(0, 0, 0, 0), Check.STATE);
        due("no hill, no q", y.how(1, 6, 0, 0), Check.STATE);
        due("no hill, a more than b", y.how(1, 0, 1, 0), Check.STATE);
    }

    // ---- promise 19

    private static void objectionsAreFractions() {
        Sentences.holds(19, "OBJECTION: something FELL from a TREE: the odds, as that is so, that some GRAVE let it"
                + " fall (the wind perhaps too): a fraction;");
        DeadAsked x = Hills.on("winds 0 3 0 0 0 0 0 0 0 0 0 0;grave 0 9 5 1;grave 0 9 5 1;grave 20 9 4 1;"
                + "horn 0 40;tree pear 0 1;tree ash 20 1;");
        // 1 less a quarter, of 1 less a tenth.
        fellDue("two graves, and the wind", x, asked(1, 1, 1, 0), 5, 6);
        fellDue("graves alone", x, asked(1, 1, 0, 0), 1, 1);
        fellDue("the wind alone", x, asked(2, 1, 1, 0), 0, 1);
        // 4 tenths, of 1 less 6 hundredths.
        fellDue("of the other tree", x, asked(1, 1, 1, 1), 20, 47);
        // 99999 of 100000, of 999999 of 1000000.
        DeadAsked y = Hills.on(Hills.winds(3) + "grave 0 9 9 1;".repeat(5) + "horn 0 9;tree ash 0 1;");
        fellDue("the most below", y, asked(1, 1, 0, 0), 111110, 111111);
    }

    private static void nothingCanFall() {
        Sentences.holds(19, "0 by 1, if nothing can fall from it.");
        DeadAsked x = Hills.on("winds 0 3 0 0 0 0 0 0 0 0 0 0;grave 0 9 9 1;grave 9 9 0 1;horn 0 40;tree fir 0 1;"
                + "tree ash 9 1;tree ash 12 0;tree fir 30 9;");
        int[][] nothings = {{2, 1, 1, 0}, {1, 0, 1, 0}, {1, 1, 0, 1}, {1, 1, 1, 1}, {1, 1, 1, 2}, {1, 1, 1, 3}};
        String[] names = {"of a matter that none minds", "through no horns", "by no temper, without wind",
                "by no temper, with wind", "of a tree without fruit", "of a fir of nobody's"};
        for (int k = 0; k < nothings.length; k++) {
            fellDue("of one that can", x, asked(1, 1, 1, 0), 1, 1);
            due(names[k] + ", above", x.fell(nothings[k][0], nothings[k][1], nothings[k][2], nothings[k][3], 0), 0);
            x.odds(1, 1, 1, 1);
            due(names[k] + ", below", x.fell(nothings[k][0], nothings[k][1], nothings[k][2], nothings[k][3], 1), 1);
        }
    }

    private static void whoHasATemper() {
        Sentences.holds(19, "WHO: GRAVES (bits) that can have: each that MINDS, whose TREE it is, of TEMPER 1 or"
                + " more.");
        DeadAsked x = Hills.on(Hills.winds(3) + "grave 0 9 0 1;grave 0 9 1 1;grave 0 9 9 2;grave 9 9 9 1;"
                + "grave 0 9 9 1;horn 0 9;horn 9 9;tree ash 0 1;tree ash 9 1;");
        due("not of temper 0, not who does not mind, not of another tree", x.fell(1, 3, 0, 0, 2), 18);
        due("of the other tree", x.fell(1, 3, 0, 1, 2), 8);
        due("all five", Hills.on(FULL_HILL).fell(1, 1, 0, 1, 2), 31);
        due("through no horns", x.fell(1, 0, 0, 0, 2), 0);
        due("the wind is none", x.fell(4, 3, 0, 0, 2), 0);
        x.pick(0, 1);
        due("of a tree without fruit", x.fell(1, 3, 0, 0, 2), 0);
    }

    private static void objectionsAreToldInThree() {
        Sentences.holds(19, "OBJECTION: above (what = 0), below (1), WHO (2).");
        DeadAsked x = Hills.on(Hills.winds(1) + "grave 0 9 9 1;grave 0 9 5 1;horn 0 9;tree nut 0 1;");
        // 95 of 100, of 955 of 1000.
        due("above", x.fell(1, 1, 0, 0, 0), 190);
        due("below", x.fell(1, 1, 0, 0, 1), 191);
        due("who", x.fell(1, 1, 0, 0, 2), 3);
    }

    private static void fellRefusesNumbers() {
        Sentences.holds(19, "BAD: matter, horns, hour, TREE, what; STATE: no HILL (ahead of BAD).");
        DeadAsked x = Hills.on(FULL_HILL);
        Sentences.ends("matter", 1, 15, v -> x.fell(v, 1, 0, 0, 0));
        Sentences.ends("horns", 0, 15, v -> x.fell(1, v, 0, 0, 0));
        Sentences.ends("hour", 0, 11, v -> x.fell(1, 1, v, 0, 0));
        Sentences.ends("tree", 0, 3, v -> x.fell(1, 1, 0, v, 0));
        Sentences.ends("what", 0, 2, v -> x.fell(1, 1, 0, 3, v));
        due("no tree", Hills.on(CALM).fell(1, 1, 0, 0, 2), Check.BAD);
        DeadAsked y = new DeadAsked();
        due("no hill", y.fell(1, 0, 0, 0, 0), Check.STATE);
        due("no hill, no matter", y.fell(16, 0, 0, 0, 0), Check.STATE);
        due("no hill, no horns", y.fell(1, -1, 0, 0, 0), Check.STATE);
        due("no hill, no hour", y.fell(1, 0, 12, 0, 0), Check.STATE);
        due("no hill, no such what", y.fell(1, 0, 0, 0, 3), Check.STATE);
    }

    // ---- promise 20

    private static void picksAreTheFewest() {
        Sentences.holds(20, "PICK: TREES (bits) to be picked empty, the fewest, so that ODDS of a MATTER, through"
                + " HORNS, in an HOUR,");
        // 0.9, 0.9, 0.7: without both nuts 0.7, without the ash 0.81.
        DeadAsked x = Hills.on(Hills.winds(1) + "tree nut 0 1;tree nut 9 9;tree ash 18 5;");
        due("one, though two are less as bits", x.picks(1, 0, 0, 700), 4);
        due("none", x.picks(1, 0, 0, 567), 0);
        due("all", x.picks(1, 0, 0, 901), 7);
        due("nothing is picked by it", x.count(5), 15);
        due("no act is done by it", x.count(4), 0);
        DeadAsked y = Hills.on(Hills.winds(3) + "tree ash 0 0;tree ash 9 1;tree fir 12 1;");
        due("not those that are empty, or firm", y.picks(1, 0, 0, 1000), 2);
    }

    private static void picksReachS() {
        Sentences.holds(20, "are s of 1000 or more;");
        DeadAsked x = Hills.on(Hills.winds(1) + "tree nut 0 1;");
        due("0 of 1000", x.picks(1, 0, 0, 0), 0);
        due("just as many", x.picks(1, 0, 0, 900), 0);
        due("one more", x.picks(1, 0, 0, 901), 1);
        due("all", x.picks(1, 0, 0, 1000), 1);
        // 0.6561: between 656 and 657.
        DeadAsked y = Hills.on(Hills.winds(1) + "tree nut 0 1;tree nut 9 1;tree nut 18 1;tree nut 27 1;");
        due("a little more than s", y.picks(1, 0, 0, 656), 0);
        due("a little less than s", y.picks(1, 0, 0, 657), 1);
        // 0.59049: just below 591.
        DeadAsked z = Hills.on(CALM + "grave 0 9 1 1;".repeat(5) + "horn 0 9;tree fir 0 1;");
        due("more than s by less than 1", z.picks(1, 1, 0, 590), 0);
        due("less than s by less than 1", z.picks(1, 1, 0, 591), 1);
        due("s 0 by the least odds", Hills.on(FULL_HILL).picks(1, 1, 0, 0), 0);
        due("s 1 by the least odds", Hills.on(FULL_HILL).picks(14, 1, 0, 1), 1);
    }

    private static void picksAreTheLeast() {
        Sentences.holds(20, "of several the least as bits;");
        DeadAsked x = Hills.on(Hills.winds(1) + "tree fir 27 1;tree nut 18 1;tree nut 9 1;tree nut 0 1;");
        due("one of three", x.picks(1, 0, 0, 810), 2);
        due("two of three", x.picks(1, 0, 0, 811), 6);
        due("three of three", x.picks(1, 0, 0, 901), 14);
    }

    private static void picksAreNeverNone() {
        Sentences.holds(20, "of several the least as bits; NONE.");
        due("all four, and none are left to fall from", Hills.on(FULL_HILL).picks(1, 1, 0, 1000), 15);
        due("no trees", Hills.on(Hills.winds(3) + "grave 0 9 9 1;horn 0 40;").picks(1, 1, 0, 1000), 0);
        due("no fruit", Hills.on(Hills.winds(3) + "tree ash 0 0;").picks(1, 1, 0, 1000), 0);
    }

    private static void gravesHaveTreesOfThoseLeft() {
        Sentences.holds(20, "(GRAVES have their TREES of those left then.)");
        DeadAsked x = Hills.on(CALM + "grave 5 9 5 1;horn 5 9;tree fir 5 1;tree fir 2 1;tree fir 9 1;");
        due("half", x.picks(1, 1, 0, 500), 0);
        due("the next tree is the grave's then, one 4 away is not", x.picks(1, 1, 0, 501), 3);
        DeadAsked y = Hills.on(CALM + "grave 5 9 5 1;horn 5 9;tree fir 5 1;tree fir 9 1;");
        due("none is the grave's then", y.picks(1, 1, 0, 501), 1);
    }

    private static void picksAreOf0To1000() {
        Sentences.holds(20, "PICK (s 0 to 1000); NONE.");
        DeadAsked x = Hills.on(FULL_HILL);
        Sentences.ends("s", 0, 1000, v -> x.picks(1, 1, 0, v));
        due("s 0", x.picks(1, 1, 0, 0), 0);
        due("s 1000", x.picks(1, 1, 0, 1000), 15);
    }

    private static void picksRefuseNumbers() {
        Sentences.holds(20, "BAD; STATE: no HILL (ahead of BAD).");
        DeadAsked x = Hills.on(FULL_HILL);
        Sentences.ends("matter", 1, 15, v -> x.picks(v, 1, 0, 0));
        Sentences.ends("horns", 0, 15, v -> x.picks(1, v, 0, 0));
        Sentences.ends("hour", 0, 11, v -> x.picks(1, 1, v, 0));
        DeadAsked y = new DeadAsked();
        due("no hill", y.picks(1, 0, 0, 0), Check.STATE);
        due("no hill, no matter", y.picks(0, 0, 0, 0), Check.STATE);
        due("no hill, no horns", y.picks(1, 16, 0, 0), Check.STATE);
        due("no hill, no hour", y.picks(1, 0, 12, 0), Check.STATE);
        due("no hill, no s", y.picks(1, 0, 0, 1001), Check.STATE);
    }

    // ---- promise 21

    private static DeadAsked withMatters(String text) {
        DeadAsked x = Hills.on(text);
        int[] matters = {1, 15, 0, 16, -1, 2};
        x.row(7, 0, matters.length);
        for (int i = 0; i < matters.length; i++) {
            x.set(7, i, matters[i]);
        }
        return x;
    }

    private static void councilsPassHourByHour() {
        Sentences.holds(21, "COUNCIL: a row of MATTERS, one after another in HOURS a, a and 1, ..: ODDS that all PASS"
                + " (each by itself; FRUIT as it is now).");
        DeadAsked x = withMatters("winds 1 3 0 0 0 0 0 0 0 0 1 2;grave 0 9 5 1;horn 0 9;tree nut 0 1;");
        councilDue("matter 1 in hour 0, 15 in hour 1", x, asked(1, 0, 7, 0, 2), 63, 400);
        councilDue("through none, in hours 10 and 11", x, asked(0, 10, 7, 0, 2), 18, 25);
        councilDue("the second alone, in hour 11", x, asked(1, 11, 7, 1, 1), 2, 5);
        councilDue("one of another topic", x, asked(1, 1, 7, 5, 1), 7, 10);
        due("nothing falls by it", x.tree(0, 1), 1);
        councilDue("the least that can be", withMatters(FULL_HILL), asked(1, 10, 7, 0, 2), 1, 1000000000000000000L);
    }

    private static void councilsAreOf1Or2() {
        Sentences.holds(21, "COUNCIL through HORNS from HOUR a on, n MATTERS (1 to 2), ITEMS of a ROW from i on:"
                + " above (what = 0), below (1).");
        DeadAsked x = withMatters("winds 1 0 0 0 0 0 0 0 0 0 0 0;grave 0 9 4 1;horn 0 9;tree nut 0 1;");
        councilDue("1", x, asked(1, 0, 7, 0, 1), 27, 50);
        councilDue("2", x, asked(1, 0, 7, 0, 2), 81, 250);
        x.row(0, 0, 4);
        for (int i = 0; i < 4; i++) {
            x.set(0, i, 1);
        }
        for (int n = -1; n <= 4; n++) {
            boolean isTold = n == 1 || n == 2;
            due("from hour 5 on, " + n, x.council(1, 5, 0, 0, n, 1), isTold ? n == 1 ? 5 : 25 : Check.BAD);
        }
    }

    private static void councilRefusesNumbers() {
        Sentences.holds(21, "BAD: horns, a, ROW, n, what,");
        DeadAsked x = withMatters(FULL_HILL);
        x.row(0, 0, 1);
        x.set(0, 0, 15);
        Sentences.ends("horns", 0, 15, v -> x.council(v, 0, 7, 0, 1, 0));
        Sentences.ends("a", 0, 11, v -> x.council(1, v, 7, 0, 1, 0));
        Sentences.ends("a of two", 0, 10, v -> x.council(1, v, 7, 0, 2, 0));
        Sentences.ends("row", 0, 7, v -> x.council(1, 0, v, 0, 1, 0));
        Sentences.ends("n", 1, 2, v -> x.council(1, 0, 7, 0, v, 0));
        Sentences.ends("what", 0, 1, v -> x.council(1, 0, 7, 0, 1, v));
    }

    private static void councilRefusesHoursBeyond() {
        Sentences.holds(21, "HOURS beyond 11; STATE: no HILL (ahead of BAD);");
        DeadAsked x = withMatters(CALM);
        due("hours 10 and 11", x.council(0, 10, 7, 0, 2, 0), 1);
        due("hour 11", x.council(0, 11, 7, 0, 1, 0), 1);
        due("hours 11 and 12", x.council(0, 11, 7, 0, 2, 0), Check.BAD);
        due("hours 11 and 12 of a missing row", x.council(0, 11, 6, 0, 2, 0), Check.BAD);
        due("hour 12", x.council(0, 12, 7, 0, 1, 0), Check.BAD);
        due("the most", x.council(0, Integer.MAX_VALUE, 7, 0, 2, 0), Check.BAD);
        DeadAsked y = new DeadAsked();
        due("no hill", y.council(0, 0, 0, 0, 1, 0), Check.STATE);
        due("no hill, no horns", y.council(16, 0, 0, 0, 1, 0), Check.STATE);
        due("no hill, hours beyond", y.council(0, 11, 0, 0, 2, 0), Check.STATE);
        due("no hill, no row", y.council(0, 0, 8, 0, 1, 0), Check.STATE);
        due("no hill, n", y.council(0, 0, 0, 0, 3, 0), Check.STATE);
        due("no hill, no such what", y.council(0, 0, 0, 0, 1, 2), Check.STATE);
        y.row(0, 0, 1);
        due("no hill, no place", y.council(0, 0, 0, 1, 1, 0), Check.STATE);
    }

    private static void councilFindsMissingRows() {
        Sentences.holds(21, "NULL;");
        DeadAsked x = withMatters(CALM);
        due("never made", x.council(0, 0, 0, 0, 1, 0), Check.NULL);
        x.drop(7);
        due("dropped", x.council(0, 0, 7, 0, 2, 1), Check.NULL);
        due("of no place, too", x.council(0, 0, 7, 99, 2, 1), Check.NULL);
    }

    private static void councilFindsNoPlace() {
        Sentences.holds(21, "PLACE;");
        DeadAsked x = withMatters(CALM);
        due("the last", x.council(0, 0, 7, 5, 1, 0), 1);
        due("behind the last", x.council(0, 0, 7, 6, 1, 0), Check.PLACE);
        due("two from the last on", x.council(0, 0, 7, 5, 2, 0), Check.PLACE);
        due("below the first", x.council(0, 0, 7, -1, 1, 0), Check.PLACE);
        due("from below the first on", x.council(0, 0, 7, -1, 2, 0), Check.PLACE);
        due("the most", x.council(0, 0, 7, Integer.MAX_VALUE, 2, 0), Check.PLACE);
        due("the least", x.council(0, 0, 7, Integer.MIN_VALUE, 2, 0), Check.PLACE);
        x.row(0, 0, 0);
        due("of none", x.council(0, 0, 0, 0, 1, 0), Check.PLACE);
    }

    private static void councilRefusesItems() {
        Sentences.holds(21, "then BAD: an ITEM.");
        DeadAsked x = withMatters(CALM);
        due("1", x.council(0, 0, 7, 0, 1, 0), 1);
        due("15", x.council(0, 0, 7, 1, 1, 0), 1);
        due("0", x.council(0, 0, 7, 2, 1, 0), Check.BAD);
        due("16", x.council(0, 0, 7, 3, 1, 0), Check.BAD);
        due("-1", x.council(0, 0, 7, 4, 1, 0), Check.BAD);
        due("the second", x.council(0, 0, 7, 1, 2, 0), Check.BAD);
        due("the first", x.council(0, 0, 7, 4, 2, 0), Check.BAD);
        due("that behind the last is not looked at", x.council(0, 0, 7, 0, 2, 0), 1);
        x.row(1, 2, 1);
        x.set(1, 0, 65537);
        due("one of more bits", x.council(0, 0, 1, 0, 1, 0), Check.BAD);
    }

    // ---- promises 22 and 23

    private static void imagesAreKept() {
        Sentences.holds(22, "An IMAGE (0, 1) is kept of the HILL as it is: 1.");
        DeadAsked x = Hills.on(CALM + "grave 1 0 0 0;horn 0 1;tree fir 0 9;");
        x.move(0, 2);
        due("the first", x.image(0), 1);
        due("the acts stay", x.count(4), 1);
        x.move(0, 3);
        x.crack(0);
        due("the other", x.image(1), 1);
        x.pick(0, 9);
        x.restore(0);
        due("X of the first", x.grave(0, 0), 2);
        due("horns of the first", x.count(2), 1);
        x.move(0, 9);
        x.restore(1);
        due("X of the other", x.grave(0, 0), 3);
        due("horns of the other", x.count(2), 0);
        due("fruit of the other", x.count(5), 9);
        due("the first anew", x.image(0), 1);
        x.restore(0);
        due("horns of the first anew", x.count(2), 0);
    }

    private static void imagesRefuseNumbers() {
        Sentences.holds(22, "BAD;");
        DeadAsked x = Hills.on(CALM);
        Sentences.ends("k", 0, 1, v -> x.image(v));
        Sentences.holds(23, "BAD;");
        Sentences.ends("k", 0, 1, v -> x.restore(v));
    }

    private static void imagesNeedAHill() {
        Sentences.holds(22, "STATE: no HILL.");
        DeadAsked x = new DeadAsked();
        due("at first", x.image(0), Check.STATE);
        Check.read(x, "winds 4");
        due("behind a fault", x.image(1), Check.STATE);
        Check.read(x, CALM);
        due("of a hill", x.image(1), 1);
    }

    private static void imagesRestore() {
        Sentences.holds(23, "The HILL is as an IMAGE kept it (no ACT can be undone then): 1.");
        DeadAsked x = Hills.on("winds 1 0 0 0 0 0 0 0 0 0 0 3;grave 1 2 3 4;grave 29 9 9 15;horn 0 1;horn 30 9;"
                + "tree nut 0 9;tree ash 30 1;");
        x.crack(0);
        x.move(0, 4);
        x.image(1);
        x.pick(0, 8);
        x.undo();
        x.ask(15, 2, 11, 2);
        x.crack(1);
        Check.read(x, CALM);
        due("1", x.restore(1), 1);
        due("no act can be undone", x.undo(), Check.STATE);
        due("none is counted", x.count(4), 0);
        long[][] graves = {{4, 2, 3, 4, DeadAsked.NONE, 0}, {29, 9, 9, 15, 1, 2}};
        long[][] trees = {{0, 9, 1, 0}, {30, 1, 3, 2}};
        for (int what = 0; what <= 5; what++) {
            due("grave 0, " + what, x.grave(0, what), graves[0][what]);
            due("grave 1, " + what, x.grave(1, what), graves[1][what]);
        }
        for (int what = 0; what <= 3; what++) {
            due("tree 0, " + what, x.tree(0, what), trees[0][what]);
            due("tree 1, " + what, x.tree(1, what), trees[1][what]);
        }
        due("kinds", x.kind(1), 4);
        due("cracked", x.crack(0), Check.STATE);
        due("not cracked", x.crack(1), 1);
        oddsDue("the winds", x, asked(1, 0, 11), 7, 100);
        due("again", x.restore(1), 1);
        due("as it was kept", x.count(2), 1);
        due("none can be undone again", x.undo(), Check.STATE);
    }

    private static void hillsNeedImages() {
        Sentences.holds(23, "STATE: none was kept.");
        DeadAsked x = new DeadAsked();
        due("without a hill", x.restore(0), Check.STATE);
        x.image(0);
        Check.read(x, CALM);
        due("the image of no hill is none", x.restore(0), Check.STATE);
        x.image(1);
        due("the other", x.restore(0), Check.STATE);
        due("the one", x.restore(1), 1);
        DeadAsked y = Hills.on(CALM);
        y.image(0);
        due("the other", y.restore(1), Check.STATE);
    }
}
