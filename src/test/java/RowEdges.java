/** Promises 2 to 5: rows, and what they say of edges. */
final class RowEdges {
    private static final int LEAST = Integer.MIN_VALUE;
    private static final int MOST = Integer.MAX_VALUE;
    // Each matter up to 7 has odds of its own here, so that a council tells which one an item is.
    private static final String TELLING = Hills.CALM + "grave 0 9 1 1;grave 1 9 2 2;grave 20 9 4 4;horn 0 40;"
            + "tree fir 0 1;tree fir 20 1;";

    private RowEdges() {
    }

    static void run() {
        rowsAreMissingAtFirst();
        rowsHaveALane();
        rowsHaveUpTo40Items();
        itemsAre0AtFirst();
        aRowStandsInPlaceOfAnother();
        rowRefusesRows();
        rowRefusesLanes();
        rowRefusesMoreThan40();
        rowFindsFewerThanNone();
        itemsKeepTheirLowestBits();
        setRefusesRows();
        setFindsMissingRows();
        setFindsNoPlace();
        itemsComeAsTheyWereAhead();
        copyRefusesRows();
        copyFindsMissingRows();
        copyFindsTwoLanes();
        copyFindsNoPlace();
        aDroppedRowIsMissing();
        dropRefusesRows();
        dropFindsMissingRows();
    }

    private static void due(String what, long got, long want) {
        Sentences.due(what, got, want);
    }

    // An object with a row of matters 1, 2, .. and bytes.
    private static DeadAsked withItems(int n) {
        DeadAsked x = Hills.on(TELLING);
        x.row(0, 0, n);
        for (int i = 0; i < n; i++) {
            x.set(0, i, i + 1);
        }
        return x;
    }

    private static void itemsDue(String what, DeadAsked x, int row, int... items) {
        for (int i = 0; i < items.length; i++) {
            boolean isMatter = items[i] >= 1 && items[i] <= 15;
            due(what + ", item " + i + " above", x.council(1, 0, row, i, 1, 0), isMatter ? x.odds(items[i], 1, 0,
                    0) : Check.BAD);
            due(what + ", item " + i + " below", x.council(1, 0, row, i, 1, 1), isMatter ? x.odds(items[i], 1, 0,
                    1) : Check.BAD);
        }
        due(what + ", behind the last", x.council(1, 0, row, items.length, 1, 0), Check.PLACE);
    }

    // ---- promise 2

    private static void rowsAreMissingAtFirst() {
        Sentences.holds(1, "ROWS 0 .. 7 are missing (at first),");
        DeadAsked x = new DeadAsked();
        for (int row = 0; row <= 7; row++) {
            due("row " + row, x.set(row, 0, 0), Check.NULL);
        }
        due("row -1", x.set(-1, 0, 0), Check.BAD);
        due("row 8", x.set(8, 0, 0), Check.BAD);
        due("rows", x.count(0), 0);
    }

    private static void rowsHaveALane() {
        Sentences.holds(2, "or have a LANE (0 bytes, 1 shorts, 2 ints)");
        DeadAsked x = new DeadAsked();
        long[] wants = {-1, 0x7FFF, 0x17FFF};
        int[] values = {0xFF, 0x7FFF, 0x17FFF};
        for (int lane = 0; lane <= 2; lane++) {
            x.row(lane, lane, 1);
            due("lane " + lane + " keeps its most", x.set(lane, 0, values[lane]), wants[lane]);
        }
        due("a short of ints", x.set(1, 0, 0x17FFF), 0x7FFF);
        due("a byte of shorts", x.set(0, 0, 0x17F), 0x7F);
    }

    private static void rowsHaveUpTo40Items() {
        Sentences.holds(2, "and 0 to 40 ITEMS,");
        DeadAsked x = new DeadAsked();
        for (int row = 0; row <= 7; row++) {
            due("none of row " + row, x.row(row, 0, 0), 0);
            due("no first place", x.set(row, 0, 1), Check.PLACE);
            due("40 of row " + row, x.row(row, 2, 40), 40);
            due("the last place", x.set(row, 39, 7), 7);
            due("no place 40", x.set(row, 40, 7), Check.PLACE);
        }
        due("a row of none is not missing", x.row(3, 0, 0), 0);
        due("rows", x.count(0), 8);
    }

    private static void itemsAre0AtFirst() {
        Sentences.holds(2, "0 at first.");
        DeadAsked x = withItems(4);
        x.row(5, 0, 40);
        itemsDue("new items are no matters", x, 5, new int[40]);
        x.row(0, 0, 4);
        itemsDue("items of a row made anew", x, 0, 0, 0, 0, 0);
        DeadAsked y = withItems(4);
        y.drop(0);
        y.row(0, 0, 4);
        itemsDue("items of a row dropped and made anew", y, 0, 0, 0, 0, 0);
    }

    private static void aRowStandsInPlaceOfAnother() {
        Sentences.holds(2, "A ROW of a LANE with n ITEMS, in place of what is there: n.");
        DeadAsked x = withItems(4);
        due("fewer", x.row(0, 2, 3), 3);
        due("of the new lane", x.set(0, 2, LEAST), LEAST);
        due("of the new size", x.set(0, 3, 1), Check.PLACE);
        due("more", x.row(0, 0, 5), 5);
        due("of the new lane again", x.set(0, 4, 128), -128);
        due("none", x.row(0, 1, 0), 0);
        due("one row", x.count(0), 1);
        due("of none", x.drop(0), 0);
    }

    private static void rowRefusesRows() {
        Sentences.holds(2, "BAD: ROW,");
        Sentences.ends("row", 0, 7, v -> new DeadAsked().row(v, 0, 1));
    }

    private static void rowRefusesLanes() {
        Sentences.holds(2, "LANE,");
        Sentences.ends("lane", 0, 2, v -> new DeadAsked().row(0, v, 1));
    }

    private static void rowRefusesMoreThan40() {
        Sentences.holds(2, "n above 40;");
        DeadAsked x = new DeadAsked();
        due("40", x.row(0, 0, 40), 40);
        due("41", x.row(0, 0, 41), Check.BAD);
        due("41 of ints", x.row(7, 2, 41), Check.BAD);
        due("the most", x.row(0, 0, MOST), Check.BAD);
        due("status", x.status(), 0);
    }

    private static void rowFindsFewerThanNone() {
        Sentences.holds(2, "SIZE.");
        DeadAsked x = new DeadAsked();
        due("0", x.row(0, 0, 0), 0);
        due("-1", x.row(0, 0, -1), Check.SIZE);
        due("-40", x.row(0, 0, -40), Check.SIZE);
        due("the least", x.row(1, 0, LEAST), Check.SIZE);
        due("the row of none stays", x.drop(0), 0);
        due("no row was made", x.drop(1), Check.NULL);
    }

    // ---- promise 3

    private static void itemsKeepTheirLowestBits() {
        Sentences.holds(3, "ITEM i becomes v, its lowest bits, as many as the LANE has (read with their sign): what"
                + " it is then.");
        DeadAsked x = new DeadAsked();
        int[][] bytes = {{127, 127}, {128, -128}, {255, -1}, {256, 0}, {-128, -128}, {-129, 127}, {LEAST, 0}, {MOST,
                -1}};
        int[][] shorts = {{32767, 32767}, {32768, -32768}, {65535, -1}, {65536, 0}, {-32768, -32768}, {-32769, 32767},
                {LEAST, 0}, {MOST, -1}};
        int[][] ints = {{MOST, MOST}, {LEAST, LEAST}, {0, 0}, {-1, -1}, {65536, 65536}};
        int[][][] lanes = {bytes, shorts, ints};
        for (int lane = 0; lane <= 2; lane++) {
            x.row(0, lane, 2);
            for (int[] one : lanes[lane]) {
                due("lane " + lane + ", first, " + one[0], x.set(0, 0, one[0]), one[1]);
                due("lane " + lane + ", last, " + one[0], x.set(0, 1, one[0]), one[1]);
            }
        }
        DeadAsked y = withItems(3);
        due("a matter of more bits", y.set(0, 1, 0x7FFFFF04), 4);
        itemsDue("the item alone becomes it", y, 0, 1, 4, 3);
    }

    private static void setRefusesRows() {
        Sentences.holds(3, "BAD: ROW;");
        DeadAsked x = new DeadAsked();
        x.row(0, 0, 1);
        x.row(7, 0, 1);
        Sentences.ends("row", 0, 7, v -> x.set(v, 0, 1));
    }

    private static void setFindsMissingRows() {
        Sentences.holds(3, "NULL;");
        DeadAsked x = new DeadAsked();
        x.row(6, 0, 40);
        due("a row that was never made", x.set(7, 0, 0), Check.NULL);
        due("the one that was", x.set(6, 0, 0), 0);
        x.drop(6);
        due("a dropped row", x.set(6, 0, 0), Check.NULL);
    }

    private static void setFindsNoPlace() {
        Sentences.holds(3, "PLACE.");
        DeadAsked x = new DeadAsked();
        x.row(0, 0, 3);
        due("the first", x.set(0, 0, 1), 1);
        due("the last", x.set(0, 2, 1), 1);
        int[] beyond = {-1, 3, 40, LEAST, MOST};
        for (int i : beyond) {
            due("place " + i, x.set(0, i, 1), Check.PLACE);
        }
        x.row(1, 0, 0);
        due("no place of none", x.set(1, 0, 1), Check.PLACE);
    }

    // ---- promise 4

    private static void itemsComeAsTheyWereAhead() {
        Sentences.holds(4, "n ITEMS of a from i on come to b from j on, as they were ahead: n.");
        DeadAsked up = withItems(4);
        due("onto itself, up", up.copy(0, 0, 0, 1, 3), 3);
        itemsDue("up", up, 0, 1, 1, 2, 3);
        DeadAsked down = withItems(4);
        due("onto itself, down", down.copy(0, 1, 0, 0, 3), 3);
        itemsDue("down", down, 0, 2, 3, 4, 4);
        DeadAsked x = withItems(4);
        x.row(7, 0, 4);
        due("all", x.copy(0, 0, 7, 0, 4), 4);
        itemsDue("all", x, 7, 1, 2, 3, 4);
        due("the last to the first", x.copy(0, 3, 7, 0, 1), 1);
        itemsDue("the last to the first", x, 7, 4, 2, 3, 4);
        due("none", x.copy(0, 0, 7, 1, 0), 0);
        due("none behind the last", x.copy(0, 4, 7, 4, 0), 0);
        itemsDue("none", x, 7, 4, 2, 3, 4);
        itemsDue("the row they are of", x, 0, 1, 2, 3, 4);
    }

    private static void copyRefusesRows() {
        Sentences.holds(4, "BAD: ROWS;");
        DeadAsked x = new DeadAsked();
        x.row(0, 0, 1);
        x.row(7, 0, 1);
        Sentences.ends("a", 0, 7, v -> x.copy(v, 0, 0, 0, 1));
        Sentences.ends("b", 0, 7, v -> x.copy(0, 0, v, 0, 1));
    }

    private static void copyFindsMissingRows() {
        Sentences.holds(4, "NULL;");
        DeadAsked x = withItems(1);
        due("a is missing", x.copy(1, 0, 0, 0, 0), Check.NULL);
        due("b is missing", x.copy(0, 0, 1, 0, 0), Check.NULL);
        due("both are", x.copy(1, 0, 2, 0, 0), Check.NULL);
        due("one row that is missing", x.copy(7, 0, 7, 0, 0), Check.NULL);
    }

    private static void copyFindsTwoLanes() {
        Sentences.holds(4, "STORE;");
        DeadAsked x = new DeadAsked();
        for (int row = 0; row < 6; row++) {
            x.row(row, row / 2, 1);
        }
        for (int a = 0; a < 6; a++) {
            for (int b = 0; b < 6; b++) {
                due(a + " to " + b, x.copy(a, 0, b, 0, 1), a / 2 == b / 2 ? 1 : Check.STORE);
            }
        }
    }

    private static void copyFindsNoPlace() {
        Sentences.holds(4, "PLACE (i, j, n below 0, or beyond an end).");
        DeadAsked x = withItems(3);
        x.row(1, 0, 2);
        int[][] beyond = {{-1, 0, 1}, {0, -1, 1}, {0, 0, -1}, {LEAST, 0, 1}, {0, LEAST, 1}, {0, 0, LEAST}, {3, 0, 1},
                {2, 0, 2}, {0, 2, 1}, {0, 1, 2}, {0, 0, 3}, {4, 0, 0}, {0, 3, 0}, {MOST, 0, 1}, {0, MOST, 1}, {0, 0,
                MOST}, {1, 0, MOST}, {MOST, MOST, MOST}, {-1, 0, 0}, {0, -1, 0}, {1, 1, -1}, {MOST, 0, 2}, {0, MOST,
                2}};
        for (int[] one : beyond) {
            due("i " + one[0] + ", j " + one[1] + ", n " + one[2], x.copy(0, one[0], 1, one[1], one[2]), Check.PLACE);
        }
        due("up to both ends", x.copy(0, 1, 1, 0, 2), 2);
        itemsDue("up to both ends", x, 1, 2, 3);
    }

    // ---- promise 5

    private static void aDroppedRowIsMissing() {
        Sentences.holds(5, "A ROW is missing from now on: how many ITEMS it had.");
        DeadAsked x = new DeadAsked();
        x.row(7, 1, 40);
        x.row(0, 1, 1);
        x.row(1, 2, 0);
        due("40", x.drop(7), 40);
        due("missing", x.set(7, 0, 1), Check.NULL);
        due("0", x.drop(1), 0);
        due("the others stay", x.set(0, 0, 1), 1);
        due("one is left", x.count(0), 1);
    }

    private static void dropRefusesRows() {
        Sentences.holds(5, "BAD;");
        DeadAsked x = new DeadAsked();
        x.row(0, 0, 1);
        x.row(7, 0, 1);
        Sentences.ends("row", 0, 7, v -> x.drop(v));
    }

    private static void dropFindsMissingRows() {
        Sentences.holds(5, "NULL.");
        DeadAsked x = new DeadAsked();
        due("never made", x.drop(7), Check.NULL);
        x.row(7, 0, 3);
        x.drop(7);
        due("dropped", x.drop(7), Check.NULL);
    }
}
