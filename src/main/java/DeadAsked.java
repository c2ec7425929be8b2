/** A hill whose graves are asked through horns, and whose fruit falls by the wind or by the dead. */
public final class DeadAsked {
    public static final int NONE = -1000000;
    public static final long NOT = -9000000000000000000L;

    private static final long BAD = NOT - 1;
    private static final long STATE = NOT - 2;
    private static final long FULL = NOT - 3;

    private static final int ROW_MISSING = 1;
    private static final int PLACE_MISSING = 2;
    private static final int KIND_OTHER = 3;
    private static final int SIZE_BELOW_NONE = 4;
    private static final int STORE_OTHER = 5;

    private static final int HOURS = 12;
    private static final int GRAVES = 5;
    private static final int HORNS = 4;
    private static final int TREES = 4;
    private static final int IMAGES = 2;
    private static final int FARTHEST_X = 30;
    private static final int ALL_TOPICS = 15;
    private static final int ALL_HORNS = 15;
    private static final int MOST_FRUIT = 9;
    private static final int MOST_SEED = 999999;
    private static final int NO_TREE_GONE = 0;

    private static final int KIND_TREE = 0;
    private static final int KIND_PEAR = 1;
    private static final int KIND_NUT = 2;
    private static final int KIND_OAK = 3;
    private static final int KIND_ASH = 4;
    private static final int KIND_FIR = 5;

    private final Rows rows = new Rows();
    private final Tape tape = new Tape();
    private final HillReader reader = new HillReader(tape);
    private final Acts acts = new Acts();
    private final Bodies bodies = new Bodies();
    private final Fraction fraction = new Fraction();
    private final Hill firstImage = new Hill();
    private final Hill secondImage = new Hill();
    // Two hills change places, so that a text with a fault leaves the one that stands.
    private Hill standing = new Hill();
    private Hill spare = new Hill();
    private boolean hasHill;
    private int imagesKept;
    private int latestFault;
    private int latestFinding;

    public DeadAsked() {
    }

    // ---- rows

    public long row(int row, int lane, int n) {
        if (!rows.isRow(row) || !rows.isLane(lane) || n > Rows.LONGEST) {
            return BAD;
        }
        if (n < 0) {
            return finding(SIZE_BELOW_NONE);
        }
        rows.make(row, lane, n);
        return withoutFinding(n);
    }

    public long set(int row, int i, int v) {
        if (!rows.isRow(row)) {
            return BAD;
        }
        if (rows.isMissing(row)) {
            return finding(ROW_MISSING);
        }
        if (!rows.holds(row, i, 1)) {
            return finding(PLACE_MISSING);
        }
        return withoutFinding(rows.put(row, i, v));
    }

    public long copy(int a, int i, int b, int j, int n) {
        if (!rows.isRow(a) || !rows.isRow(b)) {
            return BAD;
        }
        if (rows.isMissing(a) || rows.isMissing(b)) {
            return finding(ROW_MISSING);
        }
        if (!rows.areOfOneLane(a, b)) {
            return finding(STORE_OTHER);
        }
        if (!rows.holds(a, i, n) || !rows.holds(b, j, n)) {
            return finding(PLACE_MISSING);
        }
        rows.carry(a, i, b, j, n);
        return withoutFinding(n);
    }

    public long drop(int row) {
        if (!rows.isRow(row)) {
            return BAD;
        }
        if (rows.isMissing(row)) {
            return finding(ROW_MISSING);
        }
        return withoutFinding(rows.lose(row));
    }

    // ---- hills, acts

    public long feed(long w, int n) {
        if (n < 1 || n > 8) {
            return BAD;
        }
        if (!tape.hasRoomFor(n)) {
            return FULL;
        }
        tape.append(w, n);
        return tape.length();
    }

    public long hill() {
        boolean read = reader.readInto(spare);
        tape.clear();
        if (!read) {
            latestFault = reader.faultNumber();
            return NOT - 100 - reader.faultPlace();
        }
        Hill before = standing;
        standing = spare;
        spare = before;
        hasHill = true;
        acts.forgetAll();
        return standing.graves;
    }

    public int fault() {
        return latestFault;
    }

    public long ask(int matter, int horns, int hour, int seed) {
        if (!hasHill) {
            return STATE;
        }
        if (!isAsked(matter, horns, hour) || seed < 1 || seed > MOST_SEED) {
            return BAD;
        }
        int fallen = standing.drawFallen(standing.minding(matter, horns, NO_TREE_GONE), hour, seed);
        standing.addFruit(fallen, -1);
        acts.keep(Acts.ASK, fallen, 1);
        return fallen;
    }

    public long pick(int tree, int n) {
        if (!standing.isTree(tree) || n < 1 || n > MOST_FRUIT) {
            return BAD;
        }
        if (standing.fruit[tree] < n) {
            return STATE;
        }
        standing.addFruit(1 << tree, -n);
        acts.keep(Acts.PICKED, 1 << tree, n);
        return standing.fruit[tree];
    }

    public long move(int grave, int x) {
        if (!standing.isGrave(grave) || x < 0 || x > FARTHEST_X) {
            return BAD;
        }
        int before = standing.graveX[grave];
        standing.graveX[grave] = x;
        acts.keep(Acts.MOVED, grave, before);
        return before;
    }

    public long crack(int horn) {
        if (!standing.isHorn(horn)) {
            return BAD;
        }
        if (standing.isCracked(horn)) {
            return STATE;
        }
        standing.cracked |= 1 << horn;
        acts.keep(Acts.CRACK, horn, 0);
        return 1;
    }

    public long undo() {
        if (acts.kept() == 0) {
            return STATE;
        }
        acts.undoLatest(standing);
        return acts.kept();
    }

    public long grave(int grave, int what) {
        if (!standing.isGrave(grave)) {
            return BAD;
        }
        switch (what) {
            case 0:
                return standing.graveX[grave];
            case 1:
                return standing.hears[grave];
            case 2:
                return standing.temper[grave];
            case 3:
                return standing.against[grave];
            case 4:
                return standing.treeOf(grave, NO_TREE_GONE);
            case 5:
                return standing.hornsHeardBy(grave);
            default:
                return BAD;
        }
    }

    public long tree(int tree, int what) {
        if (!standing.isTree(tree)) {
            return BAD;
        }
        switch (what) {
            case 0:
                return standing.treeX[tree];
            case 1:
                return standing.fruit[tree];
            case 2:
                return standing.loose(tree);
            case 3:
                return standing.gravesOf(tree);
            default:
                return BAD;
        }
    }

    // ---- foretold

    public long minds(int matter, int horns) {
        if (!hasHill) {
            return STATE;
        }
        if (!isMatter(matter) || !isHorns(horns)) {
            return BAD;
        }
        return standing.minding(matter, horns, NO_TREE_GONE);
    }

    public long odds(int matter, int horns, int hour, int what) {
        if (!hasHill) {
            return STATE;
        }
        if (!isAsked(matter, horns, hour) || !isPart(what)) {
            return BAD;
        }
        int minding = standing.minding(matter, horns, NO_TREE_GONE);
        fraction.become(standing.passing(minding, hour, NO_TREE_GONE), Hill.CERTAIN);
        return fraction.part(what);
    }

    public long how(int matter, int q, int a, int b) {
        if (!hasHill) {
            return STATE;
        }
        if (!isMatter(matter) || q < 0 || q > GRAVES || !isHour(a) || !isHour(b) || a > b) {
            return BAD;
        }
        return standing.bestWay(matter, q, a, b);
    }

    public long fell(int matter, int horns, int hour, int tree, int what) {
        if (!hasHill) {
            return STATE;
        }
        if (!isAsked(matter, horns, hour) || !standing.isTree(tree) || what < 0 || what > 2) {
            return BAD;
        }
        int suspects = standing.gravesOf(tree) & standing.minding(matter, horns, NO_TREE_GONE);
        if (what == 2) {
            return standing.withTemper(suspects);
        }
        setObjection(suspects, standing.blown(tree, hour));
        return fraction.part(what);
    }

    public long picks(int matter, int horns, int hour, int s) {
        if (!hasHill) {
            return STATE;
        }
        if (!isAsked(matter, horns, hour) || s < 0 || s > 1000) {
            return BAD;
        }
        return standing.fewestGone(matter, horns, hour, s);
    }

    public long council(int horns, int a, int row, int i, int n, int what) {
        if (!hasHill) {
            return STATE;
        }
        if (!isHorns(horns) || !isHour(a) || !rows.isRow(row) || n < 1 || n > 2
                || !isHour(a + n - 1) || !isPart(what)) {
            return BAD;
        }
        if (rows.isMissing(row)) {
            return finding(ROW_MISSING);
        }
        if (!rows.holds(row, i, n)) {
            return finding(PLACE_MISSING);
        }
        if (!areMatters(row, i, n)) {
            return BAD;
        }
        setCouncil(horns, a, row, i, n);
        return withoutFinding(fraction.part(what));
    }

    public long image(int k) {
        if (!isImage(k)) {
            return BAD;
        }
        if (!hasHill) {
            return STATE;
        }
        imageOf(k).become(standing);
        imagesKept |= 1 << k;
        return 1;
    }

    public long restore(int k) {
        if (!isImage(k)) {
            return BAD;
        }
        if ((imagesKept >> k & 1) == 0) {
            return STATE;
        }
        standing.become(imageOf(k));
        acts.forgetAll();
        return 1;
    }

    // ---- asked

    public long kind(int tree) {
        return standing.isTree(tree) ? standing.kinds[tree] : BAD;
    }

    public long as(int tree, int kind) {
        if (!standing.isTree(tree) || kind < KIND_TREE || kind > KIND_FIR) {
            return BAD;
        }
        if (!isSuch(standing.kinds[tree], kind)) {
            return finding(KIND_OTHER);
        }
        return withoutFinding(tree);
    }

    public long shape(int tree, int what) {
        if (!standing.isTree(tree) || what < 0 || what > 1) {
            return BAD;
        }
        bodies.begin(standing, tree);
        return what == 0 ? bodies.size() : bodies.mark();
    }

    public int trace(int i) {
        return bodies.traced(i);
    }

    public long count(int what) {
        switch (what) {
            case 0:
                return rows.present();
            case 1:
                return standing.graves;
            case 2:
                return standing.horns - Integer.bitCount(standing.cracked);
            case 3:
                return standing.trees;
            case 4:
                return acts.kept();
            case 5:
                return standing.fruitInAll();
            case 6:
                return tape.length();
            default:
                return BAD;
        }
    }

    public int status() {
        return latestFinding;
    }

    // ---- what the calls share

    private long finding(int number) {
        latestFinding = number;
        return NOT - 10 - number;
    }

    private long withoutFinding(long answer) {
        latestFinding = 0;
        return answer;
    }

    private Hill imageOf(int k) {
        return k == 0 ? firstImage : secondImage;
    }

    private boolean areMatters(int row, int i, int n) {
        for (int k = 0; k < n; k++) {
            if (!isMatter(rows.item(row, i + k))) {
                return false;
            }
        }
        return true;
    }

    // Two matters at most: the odds of each are cut in CERTAIN parts, and CERTAIN times CERTAIN is still a long.
    private void setCouncil(int horns, int a, int row, int i, int n) {
        long above = 1;
        long below = 1;
        for (int k = 0; k < n; k++) {
            int minding = standing.minding(rows.item(row, i + k), horns, NO_TREE_GONE);
            above *= standing.passing(minding, a + k, NO_TREE_GONE);
            below *= Hill.CERTAIN;
        }
        fraction.become(above, below);
    }

    // A grave let something fall, of all the ways in which something fell, both cut in CERTAIN parts.
    private void setObjection(int suspects, int blown) {
        long graveQuiet = standing.keptBy(suspects, Hill.CERTAIN);
        long allQuiet = Hill.kept(graveQuiet, blown);
        if (allQuiet == Hill.CERTAIN) {
            fraction.become(0, 1);
        } else {
            fraction.become(Hill.CERTAIN - graveQuiet, Hill.CERTAIN - allQuiet);
        }
    }

    private static boolean isMatter(int matter) {
        return matter >= 1 && matter <= ALL_TOPICS;
    }

    private static boolean isHorns(int horns) {
        return horns >= 0 && horns <= ALL_HORNS;
    }

    private static boolean isHour(int hour) {
        return hour >= 0 && hour < HOURS;
    }

    private static boolean isAsked(int matter, int horns, int hour) {
        return isMatter(matter) && isHorns(horns) && isHour(hour);
    }

    private static boolean isPart(int what) {
        return what == 0 || what == 1;
    }

    private static boolean isImage(int k) {
        return k >= 0 && k < IMAGES;
    }

    private static boolean isSuch(int own, int kind) {
        switch (kind) {
            case KIND_TREE:
                return true;
            case KIND_PEAR:
                return own == KIND_PEAR || own == KIND_NUT || own == KIND_OAK;
            case KIND_NUT:
                return own == KIND_NUT || own == KIND_OAK;
            case KIND_ASH:
                return own == KIND_ASH || own == KIND_FIR;
            default:
                return own == kind;
        }
    }

    /** Eight rows of items; each row is missing, or has a lane. */
    private static final class Rows {
        static final int LONGEST = 40;
        private static final int MOST = 8;
        private static final int LANES = 3;
        private static final int MISSING = -1;

        private final int[] lanes = new int[MOST];
        private final int[] sizes = new int[MOST];
        private final int[] items = new int[MOST * LONGEST];

        Rows() {
            for (int row = 0; row < MOST; row++) {
                lanes[row] = MISSING;
            }
        }

        boolean isRow(int row) {
            return row >= 0 && row < MOST;
        }

        boolean isLane(int lane) {
            return lane >= 0 && lane < LANES;
        }

        boolean isMissing(int row) {
            return !isRow(row) || lanes[row] == MISSING;
        }

        boolean areOfOneLane(int a, int b) {
            return isRow(a) && isRow(b) && lanes[a] == lanes[b];
        }

        // Told by what is left of the row, as i and n together may be more than an int holds.
        boolean holds(int row, int i, int n) {
            return !isMissing(row) && i >= 0 && n >= 0 && i <= sizes[row] && n <= sizes[row] - i;
        }

        void make(int row, int lane, int n) {
            if (!isRow(row) || !isLane(lane) || n < 0 || n > LONGEST) {
                return;
            }
            lanes[row] = lane;
            sizes[row] = n;
            for (int i = 0; i < n; i++) {
                items[row * LONGEST + i] = 0;
            }
        }

        int lose(int row) {
            if (isMissing(row)) {
                return 0;
            }
            lanes[row] = MISSING;
            return sizes[row];
        }

        int item(int row, int i) {
            return holds(row, i, 1) ? items[row * LONGEST + i] : 0;
        }

        int put(int row, int i, int v) {
            if (!holds(row, i, 1)) {
                return 0;
            }
            int kept = cutToLane(lanes[row], v);
            items[row * LONGEST + i] = kept;
            return kept;
        }

        void carry(int a, int i, int b, int j, int n) {
            if (holds(a, i, n) && holds(b, j, n)) {
                System.arraycopy(items, a * LONGEST + i, items, b * LONGEST + j, n);
            }
        }

        int present() {
            int present = 0;
            for (int row = 0; row < MOST; row++) {
                if (lanes[row] != MISSING) {
                    present++;
                }
            }
            return present;
        }

        private static int cutToLane(int lane, int v) {
            if (lane == 0) {
                return (byte) v;
            }
            if (lane == 1) {
                return (short) v;
            }
            return v;
        }
    }

    /** The bytes that were fed, and the token among them that is read now. */
    private static final class Tape {
        static final int END = 0;
        static final int NAME = 1;
        static final int NUMBER = 2;
        static final int SIGN = 3;
        static final int NO_TOKEN = 4;

        private static final int LONGEST = 400;
        private static final int MOST_FIGURES = 3;

        private final byte[] bytes = new byte[LONGEST];
        private int used;
        private int start;
        private int behind;
        private int sort;

        int length() {
            return used;
        }

        boolean hasRoomFor(int n) {
            return n <= LONGEST - used;
        }

        void append(long w, int n) {
            for (int k = n - 1; k >= 0 && used < LONGEST; k--) {
                bytes[used] = (byte) (w >>> 8 * k);
                used++;
            }
        }

        void clear() {
            used = 0;
        }

        void readFirst() {
            behind = 0;
            readNext();
        }

        void readNext() {
            start = behind;
            while (start < used && isBlank(bytes[start])) {
                start++;
            }
            behind = start + 1;
            if (start >= used) {
                sort = END;
                behind = start;
            } else if (isLetter(bytes[start])) {
                sort = NAME;
                readLetters();
            } else if (isFigure(bytes[start])) {
                readFigures();
                sort = behind - start > MOST_FIGURES ? NO_TOKEN : NUMBER;
            } else {
                sort = bytes[start] == ';' ? SIGN : NO_TOKEN;
            }
        }

        int tokenStart() {
            return start;
        }

        boolean isSort(int wanted) {
            return sort == wanted;
        }

        boolean isWord(String word) {
            if (sort != NAME || behind - start != word.length()) {
                return false;
            }
            for (int k = 0; k < word.length() && start + k < used; k++) {
                if (bytes[start + k] != word.charAt(k)) {
                    return false;
                }
            }
            return true;
        }

        int number() {
            int number = 0;
            for (int k = start; k < behind && k < used; k++) {
                number = number * 10 + (bytes[k] - '0');
            }
            return number;
        }

        private void readLetters() {
            while (behind < used && isLetter(bytes[behind])) {
                behind++;
            }
        }

        private void readFigures() {
            while (behind < used && isFigure(bytes[behind])) {
                behind++;
            }
        }

        private static boolean isBlank(int sign) {
            return sign == ' ' || sign == '\n';
        }

        private static boolean isLetter(int sign) {
            return sign >= 'a' && sign <= 'z';
        }

        private static boolean isFigure(int sign) {
            return sign >= '0' && sign <= '9';
        }
    }

    /** Reads the tape as a text of a hill, up to its first fault. */
    private static final class HillReader {
        private static final int MISPLACED = 1;
        private static final int WRONG_NUMBER = 2;
        private static final int TOO_MANY = 3;

        private final Tape tape;
        private int number;
        private int faultNumber;
        private int faultPlace;

        HillReader(Tape tape) {
            this.tape = tape;
        }

        int faultNumber() {
            return faultNumber;
        }

        int faultPlace() {
            return faultPlace;
        }

        boolean readInto(Hill hill) {
            hill.clear();
            tape.readFirst();
            if (!readWinds(hill) || !readGraves(hill) || !readHorns(hill) || !readTrees(hill)) {
                return false;
            }
            return tape.isSort(Tape.END) || refuse(MISPLACED);
        }

        private boolean readWinds(Hill hill) {
            if (!tape.isWord("winds")) {
                return refuse(MISPLACED);
            }
            tape.readNext();
            for (int hour = 0; hour < HOURS; hour++) {
                if (!takeNumber(0, 3)) {
                    return false;
                }
                hill.winds[hour] = number;
            }
            return takeSign();
        }

        private boolean readGraves(Hill hill) {
            for (int grave = 0; grave < GRAVES && tape.isWord("grave"); grave++) {
                tape.readNext();
                if (!readGrave(hill, grave)) {
                    return false;
                }
                hill.graves = grave + 1;
            }
            return !tape.isWord("grave") || refuse(TOO_MANY);
        }

        private boolean readGrave(Hill hill, int grave) {
            if (!takeNumber(0, FARTHEST_X)) {
                return false;
            }
            hill.graveX[grave] = number;
            if (!takeNumber(0, 9)) {
                return false;
            }
            hill.hears[grave] = number;
            if (!takeNumber(0, 9)) {
                return false;
            }
            hill.temper[grave] = number;
            if (!takeNumber(0, ALL_TOPICS)) {
                return false;
            }
            hill.against[grave] = number;
            return takeSign();
        }

        private boolean readHorns(Hill hill) {
            for (int horn = 0; horn < HORNS && tape.isWord("horn"); horn++) {
                tape.readNext();
                if (!readHorn(hill, horn)) {
                    return false;
                }
                hill.horns = horn + 1;
            }
            return !tape.isWord("horn") || refuse(TOO_MANY);
        }

        private boolean readHorn(Hill hill, int horn) {
            if (!takeNumber(0, FARTHEST_X)) {
                return false;
            }
            hill.hornX[horn] = number;
            if (!takeNumber(1, 40)) {
                return false;
            }
            hill.loud[horn] = number;
            return takeSign();
        }

        private boolean readTrees(Hill hill) {
            for (int tree = 0; tree < TREES && tape.isWord("tree"); tree++) {
                tape.readNext();
                if (!readTree(hill, tree)) {
                    return false;
                }
                hill.trees = tree + 1;
            }
            return !tape.isWord("tree") || refuse(TOO_MANY);
        }

        private boolean readTree(Hill hill, int tree) {
            int kind = kindNamed();
            if (kind == NONE) {
                return refuse(MISPLACED);
            }
            hill.kinds[tree] = kind;
            tape.readNext();
            // Looked at ahead of taking it: the fault of an X told twice stands at the X.
            if (tape.isSort(Tape.NUMBER) && hill.hasTreeAt(tape.number())) {
                return refuse(WRONG_NUMBER);
            }
            if (!takeNumber(0, FARTHEST_X)) {
                return false;
            }
            hill.treeX[tree] = number;
            if (!takeNumber(0, MOST_FRUIT)) {
                return false;
            }
            hill.fruit[tree] = number;
            return takeSign();
        }

        private int kindNamed() {
            if (tape.isWord("pear")) {
                return KIND_PEAR;
            }
            if (tape.isWord("nut")) {
                return KIND_NUT;
            }
            if (tape.isWord("oak")) {
                return KIND_OAK;
            }
            if (tape.isWord("ash")) {
                return KIND_ASH;
            }
            return tape.isWord("fir") ? KIND_FIR : NONE;
        }

        private boolean takeNumber(int least, int most) {
            if (!tape.isSort(Tape.NUMBER)) {
                return refuse(MISPLACED);
            }
            number = tape.number();
            if (number < least || number > most) {
                return refuse(WRONG_NUMBER);
            }
            tape.readNext();
            return true;
        }

        private boolean takeSign() {
            if (!tape.isSort(Tape.SIGN)) {
                return refuse(MISPLACED);
            }
            tape.readNext();
            return true;
        }

        private boolean refuse(int fault) {
            faultNumber = fault;
            faultPlace = tape.tokenStart();
            return false;
        }
    }

    /** Winds, graves, horns and trees as they are, and what follows from them. */
    private static final class Hill {
        // Nine things at most let something fall (a wind at each tree, five graves), each by tenths.
        static final long CERTAIN = 1000000000L;

        private static final int LOUD_ENOUGH = 10;
        private static final int NEAR_ENOUGH = 3;
        private static final long DRAW_BY = 16807;
        private static final long DRAW_REST = 2147483647;

        final int[] winds = new int[HOURS];
        final int[] graveX = new int[GRAVES];
        final int[] hears = new int[GRAVES];
        final int[] temper = new int[GRAVES];
        final int[] against = new int[GRAVES];
        final int[] hornX = new int[HORNS];
        final int[] loud = new int[HORNS];
        final int[] kinds = new int[TREES];
        final int[] treeX = new int[TREES];
        final int[] fruit = new int[TREES];
        int graves;
        int horns;
        int trees;
        int cracked;

        void clear() {
            graves = 0;
            horns = 0;
            trees = 0;
            cracked = 0;
        }

        void become(Hill other) {
            System.arraycopy(other.winds, 0, winds, 0, HOURS);
            System.arraycopy(other.graveX, 0, graveX, 0, GRAVES);
            System.arraycopy(other.hears, 0, hears, 0, GRAVES);
            System.arraycopy(other.temper, 0, temper, 0, GRAVES);
            System.arraycopy(other.against, 0, against, 0, GRAVES);
            System.arraycopy(other.hornX, 0, hornX, 0, HORNS);
            System.arraycopy(other.loud, 0, loud, 0, HORNS);
            System.arraycopy(other.kinds, 0, kinds, 0, TREES);
            System.arraycopy(other.treeX, 0, treeX, 0, TREES);
            System.arraycopy(other.fruit, 0, fruit, 0, TREES);
            graves = other.graves;
            horns = other.horns;
            trees = other.trees;
            cracked = other.cracked;
        }

        boolean isGrave(int grave) {
            return grave >= 0 && grave < graves;
        }

        boolean isHorn(int horn) {
            return horn >= 0 && horn < horns;
        }

        boolean isTree(int tree) {
            return tree >= 0 && tree < trees;
        }

        boolean isCracked(int horn) {
            return has(cracked, horn);
        }

        boolean hasTreeAt(int x) {
            for (int tree = 0; tree < trees; tree++) {
                if (treeX[tree] == x) {
                    return true;
                }
            }
            return false;
        }

        int fruitInAll() {
            int all = 0;
            for (int tree = 0; tree < trees; tree++) {
                all += fruit[tree];
            }
            return all;
        }

        void addFruit(int ofTrees, int n) {
            for (int tree = 0; tree < trees; tree++) {
                if (has(ofTrees, tree)) {
                    fruit[tree] += n;
                }
            }
        }

        int loose(int tree) {
            switch (isTree(tree) ? kinds[tree] : KIND_TREE) {
                case KIND_PEAR:
                    return 2;
                case KIND_NUT:
                case KIND_OAK:
                    return 1;
                case KIND_ASH:
                    return 3;
                default:
                    return 0;
            }
        }

        int blown(int tree, int hour) {
            if (!bears(tree, NO_TREE_GONE) || hour < 0 || hour >= HOURS) {
                return 0;
            }
            return loose(tree) * winds[hour];
        }

        int hornsHeardBy(int grave) {
            int heard = 0;
            for (int horn = 0; horn < horns; horn++) {
                if (isGrave(grave) && !isCracked(horn) && arrives(horn, grave) >= LOUD_ENOUGH) {
                    heard |= 1 << horn;
                }
            }
            return heard;
        }

        int treeOf(int grave, int gone) {
            int nearest = NONE;
            int distance = NEAR_ENOUGH + 1;
            for (int tree = 0; tree < trees; tree++) {
                if (isGrave(grave) && bears(tree, gone) && Math.abs(treeX[tree] - graveX[grave]) < distance) {
                    nearest = tree;
                    distance = Math.abs(treeX[tree] - graveX[grave]);
                }
            }
            return nearest;
        }

        int gravesOf(int tree) {
            int owners = 0;
            for (int grave = 0; grave < graves; grave++) {
                if (treeOf(grave, NO_TREE_GONE) == tree) {
                    owners |= 1 << grave;
                }
            }
            return owners;
        }

        int minding(int matter, int through, int gone) {
            int minding = 0;
            for (int grave = 0; grave < graves; grave++) {
                if ((against[grave] & matter) != 0 && (hornsHeardBy(grave) & through) != 0
                        && treeOf(grave, gone) != NONE) {
                    minding |= 1 << grave;
                }
            }
            return minding;
        }

        int withTemper(int among) {
            int able = 0;
            for (int grave = 0; grave < graves; grave++) {
                if (has(among, grave) && temper[grave] > 0) {
                    able |= 1 << grave;
                }
            }
            return able;
        }

        // The odds that nothing falls, cut in CERTAIN parts: each grave that minds has just one tree.
        long passing(int minding, int hour, int gone) {
            long odds = keptBy(minding, CERTAIN);
            for (int tree = 0; tree < trees; tree++) {
                if (bears(tree, gone)) {
                    odds = kept(odds, blown(tree, hour));
                }
            }
            return odds;
        }

        long keptBy(int among, long odds) {
            long left = odds;
            for (int grave = 0; grave < graves; grave++) {
                if (has(among, grave)) {
                    left = kept(left, temper[grave]);
                }
            }
            return left;
        }

        static long kept(long odds, int tenths) {
            return odds / 10 * (10 - tenths);
        }

        // Hours come inside, as who minds is the same in all of them; of equal odds the least way is still the one.
        int bestWay(int matter, int q, int a, int b) {
            int best = NONE;
            long greatest = -1;
            for (int through = 0; through < 1 << horns; through++) {
                int minding = minding(matter, through, NO_TREE_GONE);
                boolean isHeard = hearing(through) >= q;
                for (int hour = a; isHeard && hour <= b; hour++) {
                    long odds = passing(minding, hour, NO_TREE_GONE);
                    int way = 16 * hour + through;
                    if (odds > greatest || odds == greatest && way < best) {
                        greatest = odds;
                        best = way;
                    }
                }
            }
            return best;
        }

        int fewestGone(int matter, int through, int hour, int s) {
            int fewest = NONE;
            int number = TREES + 1;
            for (int gone = 0; gone < 1 << trees; gone++) {
                if (Integer.bitCount(gone) < number
                        && passing(minding(matter, through, gone), hour, gone) >= CERTAIN / 1000 * s) {
                    fewest = gone;
                    number = Integer.bitCount(gone);
                }
            }
            return fewest;
        }

        // Nothing is taken from the trees here: all draws go by what was ahead of the ask.
        int drawFallen(int minding, int hour, int seed) {
            int fallen = 0;
            long x = seed;
            for (int tree = 0; tree < trees; tree++) {
                if (bears(tree, NO_TREE_GONE)) {
                    x = x * DRAW_BY % DRAW_REST;
                    boolean falls = x % 10 < blown(tree, hour);
                    for (int grave = 0; grave < graves; grave++) {
                        if (has(minding, grave) && treeOf(grave, NO_TREE_GONE) == tree) {
                            x = x * DRAW_BY % DRAW_REST;
                            falls = x % 10 < temper[grave] || falls;
                        }
                    }
                    if (falls) {
                        fallen |= 1 << tree;
                    }
                }
            }
            return fallen;
        }

        private int arrives(int horn, int grave) {
            return loud[horn] - Math.abs(hornX[horn] - graveX[grave]) + hears[grave];
        }

        private boolean bears(int tree, int gone) {
            return isTree(tree) && fruit[tree] > 0 && !has(gone, tree);
        }

        private int hearing(int through) {
            int hearing = 0;
            for (int grave = 0; grave < graves; grave++) {
                if ((hornsHeardBy(grave) & through) != 0) {
                    hearing++;
                }
            }
            return hearing;
        }

        private static boolean has(int bits, int i) {
            return (bits >> i & 1) != 0;
        }
    }

    /** A fraction in lowest terms. */
    private static final class Fraction {
        // Far more steps than any two longs need.
        private static final int MOST_STEPS = 1000;

        private long above;
        private long below = 1;

        void become(long newAbove, long newBelow) {
            long common = commonDivisor(newAbove, newBelow);
            if (common != 0) {
                above = newAbove / common;
                below = newBelow / common;
            }
        }

        long part(int what) {
            return what == 0 ? above : below;
        }

        private static long commonDivisor(long a, long b) {
            long greater = a;
            long less = b;
            for (int step = 0; step < MOST_STEPS && less != 0; step++) {
                long rest = greater % less;
                greater = less;
                less = rest;
            }
            return greater;
        }
    }

    /** The latest acts, each with what it takes to undo it. */
    private static final class Acts {
        static final int ASK = 0;
        static final int PICKED = 1;
        static final int MOVED = 2;
        static final int CRACK = 3;

        private static final int MOST = 24;

        private final int[] sorts = new int[MOST];
        private final int[] subjects = new int[MOST];
        private final int[] amounts = new int[MOST];
        // A ring: the oldest is written over.
        private int next;
        private int kept;

        int kept() {
            return kept;
        }

        void forgetAll() {
            kept = 0;
        }

        void keep(int sort, int subject, int amount) {
            sorts[next] = sort;
            subjects[next] = subject;
            amounts[next] = amount;
            next = next == MOST - 1 ? 0 : next + 1;
            kept = Math.min(kept + 1, MOST);
        }

        void undoLatest(Hill hill) {
            if (kept == 0) {
                return;
            }
            kept--;
            next = next == 0 ? MOST - 1 : next - 1;
            int subject = subjects[next];
            if (sorts[next] == MOVED && hill.isGrave(subject)) {
                hill.graveX[subject] = amounts[next];
            } else if (sorts[next] == CRACK) {
                hill.cracked &= ~(1 << subject);
            } else if (sorts[next] == ASK || sorts[next] == PICKED) {
                hill.addFruit(subject, amounts[next]);
            }
        }
    }

    /** The bodies that answer an ask of a tree, and the trace that they leave. */
    private static final class Bodies {
        private static final int MOST_TRACED = 16;

        private final int[] traced = new int[MOST_TRACED];
        private int left;
        private int number;
        private int kind;
        private int x;
        private int fruit;
        private int loose;

        void begin(Hill hill, int tree) {
            left = 0;
            if (!hill.isTree(tree)) {
                return;
            }
            number = tree;
            kind = hill.kinds[tree];
            x = hill.treeX[tree];
            fruit = hill.fruit[tree];
            loose = hill.loose(tree);
        }

        int traced(int i) {
            return i >= 0 && i < left && i < MOST_TRACED ? traced[i] : NONE;
        }

        // Bodies that stand for one kind alone are told here, so that an ask goes no deeper than it must.
        int size() {
            switch (kind) {
                case KIND_PEAR:
                case KIND_NUT:
                    return pearSize();
                case KIND_OAK:
                    leave(12);
                    return -pearSize();
                case KIND_ASH:
                    return ashSize();
                case KIND_FIR:
                    leave(14);
                    return 2 * ashSize();
                default:
                    return lentSize();
            }
        }

        int mark() {
            switch (kind) {
                case KIND_PEAR:
                    return pearMark();
                case KIND_NUT:
                    return nutMark();
                case KIND_OAK:
                    leave(24);
                    return 2 * nutMark();
                case KIND_ASH:
                case KIND_FIR:
                    return ashMark();
                default:
                    return lentMark();
            }
        }

        private int lentSize() {
            leave(10);
            return fruit;
        }

        private int pearSize() {
            leave(11);
            int lent = lentSize();
            return lent + mark();
        }

        private int ashSize() {
            leave(13);
            int lent = lentSize();
            return lent - mark();
        }

        private int lentMark() {
            leave(20);
            return number;
        }

        private int pearMark() {
            leave(21);
            return lentMark() + x;
        }

        private int nutMark() {
            leave(22);
            return pearMark() - 1000;
        }

        private int ashMark() {
            leave(23);
            return lentMark() + 10 * loose;
        }

        private void leave(int body) {
            if (left < MOST_TRACED) {
                traced[left] = body;
                left++;
            }
        }
    }
}
