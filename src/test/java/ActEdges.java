/** Promises 9 to 15: what graves hear, what falls, acts and what undoes them. */
final class ActEdges {
    private static final String CALM = Hills.CALM;

    private ActEdges() {
    }

    static void run() {
        gravesHear10();
        crackedHornsAreNotHeard();
        treesAreTheNearest();
        treesAre3AwayAtMost();
        treesHaveFruit();
        treesAreTheFirstOfSeveral();
        treesAreLoose();
        asksDrawInOrder();
        asksDrawWhereItCannotMatter();
        asksAreOfWhatWasAhead();
        drawsAreRests();
        oneFruitFalls();
        asksTellTrees();
        askRefusesNumbers();
        askNeedsAHill();
        fruitIsLess();
        fruitIsLeft();
        pickRefusesNumbers();
        pickNeedsSoMany();
        gravesComeToAnX();
        movesTellWhereItWas();
        moveRefusesNumbers();
        hornsCrack();
        crackTells1();
        crackRefusesNumbers();
        crackRefusesCracked();
        actsAre24AtMost();
        actsAreUndoneLatestFirst();
        actsAreUndoneEachAsItsOwn();
        undoNeedsAnAct();
        gravesTell();
        graveRefusesNumbers();
        treesTell();
        treeRefusesNumbers();
    }

    private static void due(String what, long got, long want) {
        Sentences.due(what, got, want);
    }

    // ---- what graves hear, and their trees

    private static void gravesHear10() {
        Sentences.holds(14, "A GRAVE HEARS a HORN that is not CRACKED, if LOUD, less how far both are apart, and its"
                + " HEARS more, is 10 or more.");
        DeadAsked x = Hills.on(CALM + "grave 10 0 0 0;grave 10 9 0 0;horn 10 10;horn 10 9;horn 10 1;horn 30 30;");
        due("10, and not 9, or 1; 30 less 20", x.grave(0, 5), 9);
        due("with 9 more: 1 and 9 is 10", x.grave(1, 5), 15);
        x.move(0, 9);
        due("9 below, 21 below: 9", x.grave(0, 5), 0);
        x.move(0, 11);
        due("1 above: 9; 19 below: 11", x.grave(0, 5), 8);
        x.move(1, 11);
        due("1 and 9 less 1 is 9", x.grave(1, 5), 11);
        DeadAsked y = Hills.on(CALM + "grave 0 0 0 0;grave 30 0 0 0;horn 0 40;horn 0 39;horn 30 40;horn 30 39;");
        due("all over the hill, from below", y.grave(0, 5), 7);
        due("all over the hill, from above", y.grave(1, 5), 13);
    }

    private static void crackedHornsAreNotHeard() {
        Sentences.holds(12, "A GRAVE HEARS a HORN that is not CRACKED");
        DeadAsked x = Hills.on(CALM + "grave 0 9 0 1;horn 0 40;horn 0 40;horn 0 40;horn 0 40;tree fir 0 1;");
        due("all", x.grave(0, 5), 15);
        x.crack(0);
        due("not the first", x.grave(0, 5), 14);
        x.crack(3);
        due("not the last", x.grave(0, 5), 6);
        due("nobody minds through these", x.minds(1, 9), 0);
        due("one minds through one more", x.minds(1, 13), 1);
    }

    private static void treesAreTheNearest() {
        Sentences.holds(14, "ITS TREE: of TREES with FRUIT the nearest one,");
        DeadAsked x = Hills.on(CALM + "grave 10 0 0 0;tree fir 13 1;tree fir 8 1;tree fir 11 1;tree fir 9 0;");
        due("1 away", x.grave(0, 4), 2);
        x.move(0, 11);
        due("0 away", x.grave(0, 4), 2);
        x.move(0, 9);
        due("1 away below", x.grave(0, 4), 1);
        x.move(0, 0);
        due("none", x.grave(0, 4), DeadAsked.NONE);
    }

    private static void treesAre3AwayAtMost() {
        Sentences.holds(14, "3 away at most,");
        DeadAsked x = Hills.on(CALM + "grave 7 0 0 0;tree fir 10 1;");
        int[] at = {6, 7, 10, 13, 14};
        for (int to : at) {
            x.move(0, to);
            due("from " + to, x.grave(0, 4), to == 6 || to == 14 ? DeadAsked.NONE : 0);
            due("graves of it from " + to, x.tree(0, 3), to == 6 || to == 14 ? 0 : 1);
        }
    }

    private static void treesHaveFruit() {
        Sentences.holds(15, "of TREES with FRUIT the nearest one,");
        DeadAsked x = Hills.on(CALM + "grave 5 0 0 0;tree fir 5 1;tree fir 7 2;tree fir 4 0;");
        due("the nearest", x.grave(0, 4), 0);
        x.pick(0, 1);
        due("the nearest with fruit", x.grave(0, 4), 1);
        due("its graves", x.tree(1, 3), 1);
        due("none of one without", x.tree(0, 3), 0);
        x.pick(1, 1);
        due("1 is enough", x.grave(0, 4), 1);
        x.pick(1, 1);
        due("none with fruit", x.grave(0, 4), DeadAsked.NONE);
    }

    private static void treesAreTheFirstOfSeveral() {
        Sentences.holds(14, "of several the first; or none.");
        DeadAsked x = Hills.on(CALM + "grave 10 0 0 0;tree fir 12 1;tree fir 8 1;");
        due("the first, though above", x.grave(0, 4), 0);
        due("of the first", x.tree(0, 3), 1);
        due("not of the other", x.tree(1, 3), 0);
        DeadAsked y = Hills.on(CALM + "grave 10 0 0 0;tree fir 7 1;tree fir 13 1;");
        due("the first, below, both 3 away", y.grave(0, 4), 0);
        DeadAsked z = Hills.on(CALM + "grave 10 0 0 0;");
        due("none without trees", z.grave(0, 4), DeadAsked.NONE);
    }

    private static void treesAreLoose() {
        Sentences.holds(15, "LOOSE: of a pear 2, a nut 1, an oak 1, an ash 3, a fir 0;");
        DeadAsked x = Hills.on(CALM + "tree pear 0 0;tree nut 1 9;tree oak 2 0;tree ash 3 1;");
        long[] wants = {2, 1, 1, 3};
        for (int tree = 0; tree < 4; tree++) {
            due("tree " + tree, x.tree(tree, 2), wants[tree]);
        }
        due("a fir", Hills.on(CALM + "tree fir 0 9;").tree(0, 2), 0);
    }

    // ---- promise 9. By seed 1 the draws are 7 9 3 8, by seed 2: 4 8 9 6, by seed 4: 8 6 1 5, by seed 10: 0 3 1 2.

    private static void asksDrawInOrder() {
        Sentences.holds(9, "ASK by a SEED (X at first): for each TREE with FRUIT in order: first the wind lets"
                + " something fall, if a DRAW is below BLOWN");
        due("as high as BLOWN", Hills.on(Hills.winds(2) + "tree pear 0 1;").ask(1, 0, 0, 2), 0);
        due("1 below BLOWN", Hills.on(Hills.winds(3) + "tree pear 0 1;").ask(1, 0, 0, 2), 1);
        due("0 is not below 0", Hills.on(CALM + "tree ash 0 1;").ask(1, 0, 0, 10), 0);
        due("0 is below 1", Hills.on(Hills.winds(1) + "tree nut 0 1;").ask(1, 0, 0, 10), 1);
        due("trees in order: 7 below 6, 9 below 9",
                Hills.on(Hills.winds(3) + "tree pear 0 1;tree ash 1 1;").ask(1, 0, 0, 1), 0);
        due("the other order: 7 below 9, 9 below 6",
                Hills.on(Hills.winds(3) + "tree ash 0 1;tree pear 1 1;").ask(1, 0, 0, 1), 1);
        due("a tree without fruit has no draw",
                Hills.on(Hills.winds(3) + "tree ash 0 0;tree ash 9 1;").ask(1, 0, 0, 1), 2);
        due("first the wind: 7 below 6, then 9 below 9",
                Hills.on(Hills.winds(3) + "grave 0 9 9 1;horn 0 9;tree pear 0 1;").ask(1, 1, 0, 1), 0);
    }

    private static void asksDrawWhereItCannotMatter() {
        Sentences.holds(9, "(a DRAW for each, also where it can not matter), then each GRAVE in order that MINDS, and"
                + " has it as ITS TREE, if a DRAW is below TEMPER");
        due("by a wind of 0: then 9 below 9",
                Hills.on(CALM + "grave 0 9 9 1;horn 0 9;tree fir 0 1;").ask(1, 1, 0, 1), 0);
        due("by a temper of 0: then 3 below 4",
                Hills.on(CALM + "grave 0 9 0 1;grave 0 9 4 1;horn 0 9;tree fir 0 1;").ask(1, 1, 0, 1), 1);
        due("behind a wind that let it fall: tree 1 has 3 below 6",
                Hills.on(Hills.winds(3) + "grave 0 9 1 1;horn 0 9;tree ash 0 1;tree pear 20 1;").ask(1, 1, 0, 1), 3);
        String twoGraves = Hills.winds(3) + "grave 0 9 9 1;grave 0 9 9 1;horn 0 9;tree oak 0 1;tree nut 20 1;";
        due("behind a grave that let it fall: tree 1 has 5 below 3, not 1", Hills.on(twoGraves).ask(1, 1, 0, 4), 1);
        due("graves in order: 9 below 9, 3 below 1",
                Hills.on(CALM + "grave 0 9 9 1;grave 0 9 1 1;horn 0 9;tree fir 0 1;").ask(1, 1, 0, 1), 0);
        due("a grave that does not mind has no draw: 9 below 9, not 3",
                Hills.on(CALM + "grave 0 9 9 2;grave 0 9 9 1;horn 0 9;tree fir 0 1;").ask(1, 1, 0, 1), 0);
        due("a grave has its draw at its own tree: 7, then 9, 3 below 4",
                Hills.on(CALM + "grave 9 9 4 1;horn 9 9;tree fir 0 1;tree fir 9 1;").ask(1, 1, 0, 1), 2);
        due("as high as TEMPER", Hills.on(CALM + "grave 0 9 8 1;horn 0 9;tree fir 0 1;").ask(1, 1, 0, 2), 0);
        due("1 below TEMPER", Hills.on(CALM + "grave 0 9 9 1;horn 0 9;tree fir 0 1;").ask(1, 1, 0, 2), 1);
    }

    // Tree 0 loses its last by the wind (7 below 9); its grave draws 9, tree 1 draws 3: no grave is its own by then.
    private static void asksAreOfWhatWasAhead() {
        Sentences.holds(9, "(as all was ahead of the ASK);");
        DeadAsked x = Hills.on(Hills.winds(3) + "grave 5 9 9 1;horn 5 9;tree ash 4 1;tree fir 7 1;");
        due("the first alone", x.ask(1, 1, 0, 1), 1);
        due("the other stays", x.tree(1, 1), 1);
        due("it is the grave's tree then", x.grave(0, 4), 1);
        due("the next ask is of what is then: 7, then 9 below 9", x.ask(1, 1, 0, 1), 0);
        due("4, then 8 below 9", x.ask(1, 1, 0, 2), 2);
        due("none has a tree", x.minds(1, 1), 0);
    }

    private static void drawsAreRests() {
        Sentences.holds(9, "a DRAW: X becomes the rest of (X times 16807) by 2147483647, it is the rest of X by 10;");
        // Each tree of its own draw: 4 below 6, 2 below 9, 9 below 6, 9 below 9.
        String four = Hills.winds(3) + "tree pear 0 1;tree ash 1 1;tree pear 2 1;tree ash 3 1;";
        due("by the greatest seed, 4 2 9 9", Hills.on(four).ask(1, 0, 0, 999999), 3);
        due("by seed 1, 7 9 3 8", Hills.on(four).ask(1, 0, 0, 1), 12);
        due("by seed 4, 8 6 1 5", Hills.on(four).ask(1, 0, 0, 4), 14);
        due("by seed 999998, 7 3 3 1", Hills.on(four).ask(1, 0, 0, 999998), 14);
        due("by seed 127773, 1 5 4 3", Hills.on(four).ask(1, 0, 0, 127773), 15);
        due("by seed 127774, 1 7 0 1", Hills.on(four).ask(1, 0, 0, 127774), 15);
        due("by seed 500000, 9 4 6 5", Hills.on(four).ask(1, 0, 0, 500000), 10);
        due("by seed 9, 3 4 5 4, below 3", Hills.on(Hills.winds(1) + "tree ash 0 1;tree ash 1 1;tree ash 2 1;").ask(1,
                0, 0, 9), 0);
    }

    private static void oneFruitFalls() {
        Sentences.holds(9, "a TREE from which something fell has one FRUIT less then.");
        DeadAsked x = Hills.on(Hills.winds(3) + "grave 0 9 9 1;grave 0 9 9 1;horn 0 9;tree ash 0 9;tree fir 20 9;");
        due("by the wind and a grave: 4 below 9, 8 below 9, 9 below 9", x.ask(1, 1, 0, 2), 1);
        due("one less", x.tree(0, 1), 8);
        due("not the other", x.tree(1, 1), 9);
        DeadAsked y = Hills.on(Hills.winds(3) + "tree ash 0 1;");
        due("the last one", y.ask(1, 0, 0, 2), 1);
        due("none is left", y.tree(0, 1), 0);
        due("nothing falls of none", y.ask(1, 0, 0, 2), 0);
        due("still none", y.tree(0, 1), 0);
        due("both were acts", y.count(4), 2);
    }

    private static void asksTellTrees() {
        Sentences.holds(9, "ASK of a MATTER (SEED 1 to 999999): TREES from which something fell (bits).");
        Sentences.ends("seed", 1, 999999, v -> Hills.on(Hills.winds(3) + "tree ash 0 1;").ask(1, 0, 0, v));
        due("no trees", Hills.on(CALM).ask(1, 0, 0, 1), 0);
        due("it is an act all the same", actsOf(Hills.on(CALM)), 1);
        due("all four", Hills.on(Hills.winds(3) + "tree ash 0 1;tree ash 9 1;tree ash 18 1;tree ash 27 1;").ask(1, 0,
                0, 127773), 15);
    }

    private static long actsOf(DeadAsked x) {
        x.ask(1, 0, 0, 1);
        return x.count(4);
    }

    private static void askRefusesNumbers() {
        Sentences.holds(9, "BAD;");
        String text = CALM + "horn 0 1;";
        Sentences.ends("matter", 1, 15, v -> Hills.on(text).ask(v, 0, 0, 1));
        Sentences.ends("horns", 0, 15, v -> Hills.on(text).ask(1, v, 0, 1));
        Sentences.ends("hour", 0, 11, v -> Hills.on(text).ask(1, 0, v, 1));
        Sentences.ends("seed", 1, 999999, v -> Hills.on(text).ask(1, 0, 0, v));
    }

    private static void askNeedsAHill() {
        Sentences.holds(9, "STATE: no HILL (ahead of BAD).");
        DeadAsked x = new DeadAsked();
        due("as told", x.ask(1, 0, 0, 1), Check.STATE);
        due("no matter", x.ask(0, 0, 0, 1), Check.STATE);
        due("no horns", x.ask(1, 16, 0, 1), Check.STATE);
        due("no hour", x.ask(1, 0, 12, 1), Check.STATE);
        due("no seed", x.ask(1, 0, 0, 0), Check.STATE);
        Check.read(x, "winds 4");
        due("behind a fault", x.ask(1, 0, 0, 1), Check.STATE);
    }

    // ---- promises 10 to 12

    private static void fruitIsLess() {
        Sentences.holds(10, "PICKED: FRUIT of a TREE by n less.");
        DeadAsked x = Hills.on(CALM + "tree fir 0 9;tree fir 1 9;");
        x.pick(1, 1);
        due("1 less", x.tree(1, 1), 8);
        x.pick(1, 8);
        due("8 less", x.tree(1, 1), 0);
        due("the other", x.tree(0, 1), 9);
        due("two acts", x.count(4), 2);
    }

    private static void fruitIsLeft() {
        Sentences.holds(10, "PICKED: what FRUIT is left.");
        DeadAsked x = Hills.on(CALM + "tree fir 0 9;tree fir 1 3;");
        due("all nine", x.pick(0, 9), 0);
        due("1 of 3", x.pick(1, 1), 2);
        due("2 of 2", x.pick(1, 2), 0);
    }

    private static void pickRefusesNumbers() {
        Sentences.holds(10, "BAD: TREE, n 1 to 9;");
        String text = CALM + "tree fir 0 9;tree fir 1 9;tree fir 2 9;tree fir 3 9;";
        Sentences.ends("tree", 0, 3, v -> Hills.on(text).pick(v, 1));
        Sentences.ends("n", 1, 9, v -> Hills.on(text).pick(3, v));
        due("without a hill", new DeadAsked().pick(0, 1), Check.BAD);
        due("without trees", Hills.on(CALM).pick(0, 1), Check.BAD);
    }

    private static void pickNeedsSoMany() {
        Sentences.holds(10, "STATE: not so many are there.");
        DeadAsked x = Hills.on(CALM + "tree fir 0 8;tree fir 1 0;");
        due("9 of 8", x.pick(0, 9), Check.STATE);
        due("1 of 0", x.pick(1, 1), Check.STATE);
        due("8 of 8", x.pick(0, 8), 0);
        due("1 of none left", x.pick(0, 1), Check.STATE);
        due("one act", x.count(4), 1);
    }

    private static void gravesComeToAnX() {
        Sentences.holds(11, "MOVED: a GRAVE to an X (its own, too).");
        DeadAsked x = Hills.on(CALM + "grave 7 0 0 0;grave 8 0 0 0;");
        due("to its own", x.move(0, 7), 7);
        due("there it is", x.grave(0, 0), 7);
        due("that is an act", x.count(4), 1);
        due("to the other's", x.move(0, 8), 7);
        due("to the last", x.move(0, 30), 8);
        due("there", x.grave(0, 0), 30);
        due("to the first", x.move(0, 0), 30);
        due("there then", x.grave(0, 0), 0);
        due("the other stays", x.grave(1, 0), 8);
    }

    private static void movesTellWhereItWas() {
        Sentences.holds(11, "MOVED: where it was.");
        DeadAsked x = Hills.on(CALM + "grave 0 0 0 0;grave 30 0 0 0;");
        due("0", x.move(0, 30), 0);
        due("30", x.move(1, 0), 30);
        due("30 by now", x.move(0, 5), 30);
    }

    private static void moveRefusesNumbers() {
        Sentences.holds(11, "BAD: GRAVE, X.");
        String text = CALM + "grave 0 0 0 0;".repeat(5);
        Sentences.ends("grave", 0, 4, v -> Hills.on(text).move(v, 1));
        Sentences.ends("x", 0, 30, v -> Hills.on(text).move(4, v));
        due("without a hill", new DeadAsked().move(0, 1), Check.BAD);
        due("without graves", Hills.on(CALM).move(0, 1), Check.BAD);
    }

    private static void hornsCrack() {
        Sentences.holds(12, "CRACK: a HORN.");
        DeadAsked x = Hills.on(CALM + "grave 0 9 0 0;horn 0 9;horn 0 9;");
        x.crack(1);
        due("not heard", x.grave(0, 5), 1);
        due("one is not cracked", x.count(2), 1);
        due("an act", x.count(4), 1);
        x.crack(0);
        due("none is", x.count(2), 0);
    }

    private static void crackTells1() {
        Sentences.holds(12, "CRACK: 1.");
        DeadAsked x = Hills.on(CALM + "horn 0 9;".repeat(4));
        for (int horn = 3; horn >= 0; horn--) {
            due("horn " + horn, x.crack(horn), 1);
        }
    }

    private static void crackRefusesNumbers() {
        Sentences.holds(12, "BAD;");
        String text = CALM + "horn 0 9;".repeat(4);
        Sentences.ends("horn", 0, 3, v -> Hills.on(text).crack(v));
        due("without a hill", new DeadAsked().crack(0), Check.BAD);
        due("without horns", Hills.on(CALM).crack(0), Check.BAD);
    }

    private static void crackRefusesCracked() {
        Sentences.holds(12, "STATE: it is.");
        DeadAsked x = Hills.on(CALM + "horn 0 9;".repeat(4));
        for (int horn = 0; horn < 4; horn++) {
            x.crack(horn);
            due("horn " + horn, x.crack(horn), Check.STATE);
        }
        due("four acts", x.count(4), 4);
        x.undo();
        due("no more", x.crack(3), 1);
    }

    // ---- promise 13

    private static void actsAre24AtMost() {
        Sentences.holds(13, "ACTS (24 at most are kept; of more the oldest is forgotten),");
        String text = CALM + "grave 5 0 0 0;horn 0 9;tree fir 0 9;";
        DeadAsked x = Hills.on(text);
        for (int act = 0; act < 24; act++) {
            x.move(0, act);
        }
        due("24 are kept", x.count(4), 24);
        for (int left = 23; left >= 0; left--) {
            due("undo", x.undo(), left);
        }
        due("the first, too", x.grave(0, 0), 5);
        DeadAsked y = Hills.on(text);
        y.pick(0, 4);
        y.crack(0);
        for (int act = 0; act < 23; act++) {
            y.move(0, act);
        }
        due("25 are not", y.count(4), 24);
        for (int left = 23; left >= 0; left--) {
            due("undo of more", y.undo(), left);
        }
        due("no more", y.undo(), Check.STATE);
        due("the oldest stays done", y.tree(0, 1), 5);
        due("the second does not", y.count(2), 1);
        due("nor do the others", y.grave(0, 0), 5);
    }

    private static void actsAreUndoneLatestFirst() {
        Sentences.holds(13, "each can be undone, the latest first:");
        DeadAsked x = Hills.on(Hills.winds(3) + "grave 5 0 0 0;horn 0 9;horn 0 9;tree ash 0 2;tree ash 9 9;");
        x.move(0, 6);
        x.move(0, 7);
        x.crack(1);
        due("both fall", x.ask(1, 0, 0, 2), 3);
        x.pick(1, 8);
        due("one of both", x.ask(1, 0, 0, 2), 1);
        x.undo();
        due("the ask: tree 0", x.tree(0, 1), 1);
        due("the ask: not tree 1", x.tree(1, 1), 0);
        x.undo();
        due("the pick: tree 0", x.tree(0, 1), 1);
        due("the pick: tree 1", x.tree(1, 1), 8);
        x.undo();
        due("the ask before: tree 0", x.tree(0, 1), 2);
        due("the ask before: tree 1", x.tree(1, 1), 9);
        due("the crack stays yet", x.count(2), 1);
        x.undo();
        due("the crack", x.count(2), 2);
        due("the moves stay yet", x.grave(0, 0), 7);
        x.undo();
        due("the latest move", x.grave(0, 0), 6);
        x.undo();
        due("the first move", x.grave(0, 0), 5);
        Sentences.holds(13, "The latest ACT is undone: how many can be undone yet.");
        x.move(0, 0);
        x.move(0, 1);
        due("1 yet", x.undo(), 1);
        due("0 yet", x.undo(), 0);
    }

    // Trees and graves of the same numbers: what undoes one act is nothing to the others.
    private static void actsAreUndoneEachAsItsOwn() {
        Sentences.holds(13, "each can be undone");
        DeadAsked x = Hills.on(Hills.winds(3) + "grave 5 0 0 0;".repeat(5) + "horn 0 9;".repeat(4)
                + "tree ash 0 9;tree ash 9 9;tree ash 18 9;tree ash 27 9;");
        for (int k = 0; k < 4; k++) {
            x.pick(k, k + 1);
            x.crack(k);
            x.ask(1, 0, 0, 127773);
            x.move(k, 20 + k);
        }
        for (int k = 3; k >= 0; k--) {
            x.undo();
            due("X of grave " + k, x.grave(k, 0), 5);
            x.undo();
            due("FRUIT behind the ask " + k, x.count(5), 36 - 4 * k - (k + 1) * (k + 2) / 2);
            due("horns behind the crack " + k, x.count(2), 3 - k);
            x.undo();
            due("horns ahead of the crack " + k, x.count(2), 4 - k);
            x.undo();
            due("FRUIT of tree " + k, x.tree(k, 1), 9 - k);
        }
        for (int grave = 0; grave < 5; grave++) {
            due("X of grave " + grave + " at last", x.grave(grave, 0), 5);
        }
        for (int tree = 0; tree < 4; tree++) {
            due("FRUIT of tree " + tree + " at last", x.tree(tree, 1), 9);
        }
        due("no act is left", x.undo(), Check.STATE);
    }

    private static void undoNeedsAnAct() {
        Sentences.holds(13, "STATE: none.");
        due("without a hill", new DeadAsked().undo(), Check.STATE);
        DeadAsked x = Hills.on(CALM + "grave 5 0 0 0;tree fir 0 1;");
        due("at first", x.undo(), Check.STATE);
        x.pick(0, 2);
        x.move(0, 31);
        x.crack(0);
        x.ask(0, 0, 0, 1);
        due("refused acts are none", x.undo(), Check.STATE);
        x.minds(1, 1);
        x.image(0);
        due("an image is none", x.undo(), Check.STATE);
        x.move(0, 5);
        x.undo();
        due("undone is none, either", x.undo(), Check.STATE);
    }

    // ---- promises 14 and 15

    private static void gravesTell() {
        Sentences.holds(14, "Of a GRAVE: 0 X, 1 HEARS, 2 TEMPER, 3 AGAINST, 4 ITS TREE (NONE), 5 HORNS that it HEARS"
                + " (bits).");
        DeadAsked x = Hills.on(CALM + "grave 30 9 8 15;grave 0 0 0 0;grave 1 2 3 4;horn 30 1;horn 1 8;"
                + "tree fir 0 1;tree fir 29 1;");
        long[][] wants = {{30, 9, 8, 15, 1, 1}, {0, 0, 0, 0, 0, 0}, {1, 2, 3, 4, 0, 2}};
        for (int grave = 0; grave < 3; grave++) {
            for (int what = 0; what <= 5; what++) {
                due("grave " + grave + ", " + what, x.grave(grave, what), wants[grave][what]);
            }
        }
        x.pick(0, 1);
        due("no tree", x.grave(1, 4), -1000000);
    }

    private static void graveRefusesNumbers() {
        Sentences.holds(14, "BAD.");
        String text = CALM + "grave 0 0 0 0;".repeat(5) + "tree fir 0 1;";
        Sentences.ends("grave", 0, 4, v -> Hills.on(text).grave(v, 5));
        Sentences.ends("what", 0, 5, v -> Hills.on(text).grave(4, v));
        due("without a hill", new DeadAsked().grave(0, 0), Check.BAD);
        due("without graves", Hills.on(CALM).grave(0, 0), Check.BAD);
    }

    private static void treesTell() {
        Sentences.holds(15, "Of a TREE: 0 X, 1 FRUIT, 2 LOOSE, 3 GRAVES whose TREE it is (bits).");
        DeadAsked x = Hills.on(CALM + "grave 0 0 0 0;grave 3 0 0 0;grave 30 0 0 0;grave 4 0 0 0;grave 0 0 0 0;"
                + "tree pear 0 9;tree ash 30 0;tree fir 27 1;");
        long[][] wants = {{0, 9, 2, 19}, {30, 0, 3, 0}, {27, 1, 0, 4}};
        for (int tree = 0; tree < 3; tree++) {
            for (int what = 0; what <= 3; what++) {
                due("tree " + tree + ", " + what, x.tree(tree, what), wants[tree][what]);
            }
        }
    }

    private static void treeRefusesNumbers() {
        Sentences.holds(15, "BAD.");
        String text = CALM + "tree fir 0 9;tree fir 1 9;tree fir 2 9;tree fir 3 9;";
        Sentences.ends("tree", 0, 3, v -> Hills.on(text).tree(v, 3));
        Sentences.ends("what", 0, 3, v -> Hills.on(text).tree(3, v));
        due("without a hill", new DeadAsked().tree(0, 0), Check.BAD);
        due("without trees", Hills.on(CALM).tree(0, 0), Check.BAD);
    }
}
