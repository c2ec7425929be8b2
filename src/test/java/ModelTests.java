import java.math.BigInteger;
import java.util.ArrayList;
import java.util.Arrays;
import java.util.List;
import java.util.Random;

/** Long runs of calls, by fixed seeds, against a second and slower writing of the document. */
public final class ModelTests {
    private static final int RUNS = 1500;
    private static final int CALLS = 500;
    private static final String[] SORTS = {"", "pear", "nut", "oak", "ash", "fir"};
    private static final int[] PARENTS = {-1, 0, 1, 2, 0, 4};

    private ModelTests() {
    }

    public static void main(String[] args) {
        int hills = 0;
        for (int run = 0; run < RUNS; run++) {
            hills += playRun(run);
        }
        Check.due("most runs have a hill", hills > RUNS ? 1 : 0, 1);
        Check.end("ModelTests");
    }

    private static int playRun(int run) {
        Random random = new Random(run);
        DeadAsked x = new DeadAsked();
        Model model = new Model();
        int hills = 0;
        for (int call = 0; call < CALLS; call++) {
            String name = "run " + run + ", call " + call + ", ";
            if (random.nextInt(40) == 0 || call == 3) {
                String text = randomText(random);
                Check.feedText(x, text);
                for (int k = 0; k < text.length(); k += 8) {
                    model.feed(text.substring(k, Math.min(text.length(), k + 8)));
                }
                Check.due(name + "bytes", x.count(6), model.tape.length());
                long want = model.readHill();
                Check.due(name + "hill of '" + text + "'", x.hill(), want);
                Check.due(name + "fault", x.fault(), model.fault);
                hills += want >= 0 ? 1 : 0;
            } else {
                playCall(name, random, x, model);
            }
            Check.due(name + "status", x.status(), model.status);
        }
        return hills;
    }

    private static int near(Random random, int least, int most) {
        int chance = random.nextInt(40);
        if (chance == 0) {
            return least - 1 - random.nextInt(3);
        }
        if (chance == 1) {
            return most + 1 + random.nextInt(3);
        }
        if (chance == 2 && random.nextInt(4) == 0) {
            return random.nextBoolean() ? Integer.MIN_VALUE : Integer.MAX_VALUE;
        }
        return least + random.nextInt(most - least + 1);
    }

    private static String randomText(Random random) {
        StringBuilder text = new StringBuilder("winds");
        for (int hour = 0; hour < 12; hour++) {
            text.append(' ').append(random.nextInt(4));
        }
        text.append(" ;");
        for (int k = random.nextInt(6); k > 0; k--) {
            text.append("grave ").append(random.nextInt(18)).append(' ').append(random.nextInt(10)).append(' ')
                    .append(random.nextInt(10)).append(' ').append(random.nextInt(16)).append(";");
        }
        for (int k = random.nextInt(5); k > 0; k--) {
            text.append("horn ").append(random.nextInt(18)).append('\n').append(1 + random.nextInt(20)).append(";");
        }
        int at = random.nextInt(8);
        for (int k = random.nextInt(5); k > 0; k--) {
            text.append("tree ").append(SORTS[1 + random.nextInt(5)]).append(at).append(' ')
                    .append(random.nextInt(3) == 0 ? 0 : random.nextInt(10)).append("; ");
            at += 1 + random.nextInt(4);
        }
        if (random.nextInt(3) == 0) {
            String signs = "0123456789;  wgavehortnds\n#";
            for (int k = random.nextInt(3); k >= 0; k--) {
                int place = random.nextInt(text.length());
                char sign = signs.charAt(random.nextInt(signs.length()));
                if (random.nextBoolean()) {
                    text.setCharAt(place, sign);
                } else if (random.nextBoolean()) {
                    text.insert(place, sign);
                } else {
                    text.deleteCharAt(place);
                }
            }
        }
        if (random.nextInt(10) == 0) {
            text.setLength(random.nextInt(text.length()));
        }
        return text.toString();
    }

    private static void playCall(String name, Random random, DeadAsked x, Model model) {
        int row = near(random, 0, 3);
        int i = near(random, 0, 5);
        int n = near(random, 0, 5);
        int matter = near(random, 1, 15);
        int horns = near(random, 0, 15);
        int hour = near(random, 0, 11);
        int tree = near(random, 0, 3);
        int grave = near(random, 0, 4);
        switch (random.nextInt(25)) {
            case 0: {
                int lane = near(random, 0, 2);
                int size = random.nextInt(20) == 0 ? 30 + random.nextInt(14) : n;
                Check.due(name + "row", x.row(row, lane, size), model.row(row, lane, size));
                break;
            }
            case 1: {
                int v = random.nextInt(4) == 0 ? random.nextInt() : 1 + random.nextInt(15);
                Check.due(name + "set", x.set(row, i, v), model.set(row, i, v));
                break;
            }
            case 2: {
                int b = near(random, 0, 3);
                int j = near(random, 0, 4);
                Check.due(name + "copy", x.copy(row, i, b, j, n), model.copy(row, i, b, j, n));
                break;
            }
            case 3:
                if (random.nextInt(6) == 0) {
                    Check.due(name + "drop", x.drop(row), model.drop(row));
                }
                break;
            case 4:
            case 5: {
                int seed = near(random, 1, 999999);
                Check.due(name + "ask", x.ask(matter, horns, hour, seed), model.ask(matter, horns, hour, seed));
                break;
            }
            case 6: {
                int much = near(random, 1, 3);
                Check.due(name + "pick", x.pick(tree, much), model.pick(tree, much));
                break;
            }
            case 7: {
                int to = near(random, 0, 30);
                Check.due(name + "move", x.move(grave, to), model.move(grave, to));
                break;
            }
            case 8: {
                int horn = near(random, 0, 3);
                Check.due(name + "crack", x.crack(horn), model.crack(horn));
                break;
            }
            case 9:
            case 10:
            case 11:
                Check.due(name + "undo", x.undo(), model.undo());
                break;
            case 12: {
                int what = near(random, 0, 5);
                Check.due(name + "grave", x.grave(grave, what), model.grave(grave, what));
                break;
            }
            case 13: {
                int what = near(random, 0, 3);
                Check.due(name + "tree", x.tree(tree, what), model.tree(tree, what));
                break;
            }
            case 14:
                Check.due(name + "minds", x.minds(matter, horns), model.minds(matter, horns));
                break;
            case 15: {
                int what = near(random, 0, 1);
                Check.due(name + "odds", x.odds(matter, horns, hour, what), model.odds(matter, horns, hour, what));
                break;
            }
            case 16: {
                int q = near(random, 0, 5);
                int b = near(random, 0, 11);
                Check.due(name + "how", x.how(matter, q, hour, b), model.how(matter, q, hour, b));
                break;
            }
            case 17:
            case 18: {
                int what = near(random, 0, 2);
                Check.due(name + "fell", x.fell(matter, horns, hour, tree, what),
                        model.fell(matter, horns, hour, tree, what));
                break;
            }
            case 19: {
                int s = near(random, 0, 1000);
                Check.due(name + "picks", x.picks(matter, horns, hour, s), model.picks(matter, horns, hour, s));
                break;
            }
            case 20:
            case 21: {
                int many = near(random, 1, 2);
                int what = near(random, 0, 1);
                Check.due(name + "council", x.council(horns, hour, row, i, many, what),
                        model.council(horns, hour, row, i, many, what));
                break;
            }
            case 22: {
                int k = near(random, 0, 1);
                if (random.nextInt(3) > 0) {
                    Check.due(name + "image", x.image(k), model.image(k));
                } else {
                    Check.due(name + "restore", x.restore(k), model.restore(k));
                }
                break;
            }
            case 23: {
                int kind = near(random, 0, 5);
                Check.due(name + "kind", x.kind(tree), model.kind(tree));
                Check.due(name + "as", x.as(tree, kind), model.as(tree, kind));
                break;
            }
            default: {
                int what = near(random, 0, 1);
                Check.due(name + "shape", x.shape(tree, what), model.shape(tree, what));
                for (int at = -1; at < 17; at++) {
                    Check.due(name + "trace " + at, x.trace(at), model.trace(at));
                }
                int of = near(random, 0, 6);
                Check.due(name + "count", x.count(of), model.count(of));
            }
        }
    }

    /** The state of a hill, copied whole where it is kept. */
    private static final class State {
        int[] winds = new int[12];
        List<int[]> graves = new ArrayList<>();
        List<int[]> horns = new ArrayList<>();
        List<int[]> trees = new ArrayList<>();

        State copied() {
            State copy = new State();
            copy.winds = winds.clone();
            for (int[] grave : graves) {
                copy.graves.add(grave.clone());
            }
            for (int[] horn : horns) {
                copy.horns.add(horn.clone());
            }
            for (int[] tree : trees) {
                copy.trees.add(tree.clone());
            }
            return copy;
        }
    }

    /** The document, written a second time: graves {x, hears, temper, against}, horns {x, loud, cracked}, trees {x, fruit, kind}. */
    private static final class Model {
        private static final BigInteger TEN = BigInteger.TEN;

        String tape = "";
        int fault;
        int status;
        private State hill;
        private List<State> before = new ArrayList<>();
        private final State[] images = new State[2];
        private final int[][] rows = new int[8][];
        private final int[] lanes = new int[8];
        private List<Integer> trace = new ArrayList<>();

        private State shown() {
            return hill == null ? new State() : hill;
        }

        private static boolean out(int v, int least, int most) {
            return v < least || v > most;
        }

        private long found(int number) {
            status = number;
            return DeadAsked.NOT - 10 - number;
        }

        private long fine(long answer) {
            status = 0;
            return answer;
        }

        // ---- rows

        long row(int row, int lane, int n) {
            if (out(row, 0, 7) || out(lane, 0, 2) || n > 40) {
                return Check.BAD;
            }
            if (n < 0) {
                return found(4);
            }
            rows[row] = new int[n];
            lanes[row] = lane;
            return fine(n);
        }

        private static boolean beyond(int[] row, int i, int n) {
            return i < 0 || n < 0 || (long) i + n > row.length;
        }

        long set(int row, int i, int v) {
            if (out(row, 0, 7)) {
                return Check.BAD;
            }
            if (rows[row] == null) {
                return found(1);
            }
            if (beyond(rows[row], i, 1)) {
                return found(2);
            }
            int bits = 8 << lanes[row];
            long rest = Math.floorMod((long) v, 1L << bits);
            rows[row][i] = (int) (rest >= 1L << bits - 1 ? rest - (1L << bits) : rest);
            return fine(rows[row][i]);
        }

        long copy(int a, int i, int b, int j, int n) {
            if (out(a, 0, 7) || out(b, 0, 7)) {
                return Check.BAD;
            }
            if (rows[a] == null || rows[b] == null) {
                return found(1);
            }
            if (lanes[a] != lanes[b]) {
                return found(5);
            }
            if (beyond(rows[a], i, n) || beyond(rows[b], j, n)) {
                return found(2);
            }
            int[] ahead = rows[a].clone();
            for (int k = 0; k < n; k++) {
                rows[b][j + k] = ahead[i + k];
            }
            return fine(n);
        }

        long drop(int row) {
            if (out(row, 0, 7)) {
                return Check.BAD;
            }
            if (rows[row] == null) {
                return found(1);
            }
            int had = rows[row].length;
            rows[row] = null;
            return fine(had);
        }

        // ---- the text

        void feed(String bytes) {
            if (tape.length() + bytes.length() <= 400) {
                tape += bytes;
            }
        }

        // Tokens as {first byte, text}; the end is an empty text, what is no token is "?".
        private static List<Object[]> tokens(String text) {
            List<Object[]> tokens = new ArrayList<>();
            int at = 0;
            while (at < text.length()) {
                String rest = text.substring(at);
                String token;
                if (rest.matches("(?s)[ \n].*")) {
                    at++;
                    continue;
                } else if (rest.matches("(?s)[a-z].*")) {
                    token = rest.replaceAll("(?s)[^a-z].*", "");
                } else if (rest.matches("(?s)[0-9].*")) {
                    token = rest.replaceAll("(?s)[^0-9].*", "");
                } else {
                    token = rest.substring(0, 1);
                }
                boolean isOne = token.matches("[a-z]+|[0-9]{1,3}|;");
                tokens.add(new Object[] {at, isOne ? token : "?"});
                at += token.length();
            }
            tokens.add(new Object[] {text.length(), ""});
            return tokens;
        }

        // What may stand next is told by a pattern of what stood before, a letter a token.
        long readHill() {
            List<Object[]> tokens = tokens(tape);
            tape = "";
            State read = new State();
            String stood = "";
            List<Integer> numbers = new ArrayList<>();
            for (Object[] token : tokens) {
                int place = (Integer) token[0];
                String text = (String) token[1];
                int wrong = faultOf(text, stood, numbers, read);
                if (wrong != 0) {
                    fault = wrong;
                    return DeadAsked.NOT - 100 - place;
                }
                if (text.matches("[0-9]+")) {
                    numbers.add(Integer.parseInt(text));
                } else if (text.equals(";")) {
                    take(read, stood, numbers);
                    numbers.clear();
                }
                stood += letterOf(text);
            }
            hill = read;
            before.clear();
            return hill.graves.size();
        }

        private static String letterOf(String text) {
            if (text.matches("[0-9]+")) {
                return "0";
            }
            if (text.matches("pear|nut|oak|ash|fir")) {
                return "" + "?PNOAF".charAt(Arrays.asList(SORTS).indexOf(text));
            }
            if (text.matches("winds|grave|horn|tree")) {
                return text.substring(0, 1);
            }
            return text.isEmpty() ? "." : text.equals(";") ? ";" : "?";
        }

        private static final String WHOLE = "w0{12};(g0{4};)*(h0{2};)*(t[PNOAF]0{2};)*\\.";

        // A text is one so far, if some ending makes it one.
        private static boolean canStand(String stood) {
            String[] ends = {".", ";.", "0;.", "00;.", "000;.", "0000;.", "P00;.", "00000;.", "000000;.", "0000000;.",
                "00000000;.", "000000000;.", "0000000000;.", "00000000000;.", "000000000000;.", ""};
            for (String end : ends) {
                if ((stood + end).matches(WHOLE)) {
                    return true;
                }
            }
            return false;
        }

        private static int faultOf(String text, String stood, List<Integer> numbers, State read) {
            String letter = letterOf(text);
            if (letter.equals("?") || !canStand(stood + letter)) {
                return 1;
            }
            if (letter.equals("0")) {
                return suits(Integer.parseInt(text), stood, numbers.size(), read) ? 0 : 2;
            }
            boolean full = letter.equals("g") && read.graves.size() == 5
                    || letter.equals("h") && read.horns.size() == 4 || letter.equals("t") && read.trees.size() == 4;
            return full ? 3 : 0;
        }

        private static boolean suits(int v, String stood, int had, State read) {
            String words = stood.replaceAll("[^wght]", "");
            switch (words.charAt(words.length() - 1)) {
                case 'w':
                    return v <= 3;
                case 'g':
                    return v <= new int[] {30, 9, 9, 15}[had];
                case 'h':
                    return had == 0 ? v <= 30 : v >= 1 && v <= 40;
                default:
                    for (int[] tree : read.trees) {
                        if (had == 0 && tree[0] == v) {
                            return false;
                        }
                    }
                    return v <= (had == 0 ? 30 : 9);
            }
        }

        private static void take(State read, String stood, List<Integer> numbers) {
            String words = stood.replaceAll("[^wght]", "");
            int[] row = new int[12];
            for (int k = 0; k < numbers.size(); k++) {
                row[k] = numbers.get(k);
            }
            switch (words.charAt(words.length() - 1)) {
                case 'w':
                    read.winds = row;
                    break;
                case 'g':
                    read.graves.add(row);
                    break;
                case 'h':
                    row[2] = 0;
                    read.horns.add(row);
                    break;
                default:
                    String sorts = stood.replaceAll("[^PNOAF]", "");
                    row[2] = "?PNOAF".indexOf(sorts.charAt(sorts.length() - 1));
                    read.trees.add(row);
            }
        }

        // ---- what follows from a hill

        private static boolean hears(State on, int grave, int horn) {
            int[] g = on.graves.get(grave);
            int[] h = on.horns.get(horn);
            return h[2] == 0 && h[1] - Math.abs(h[0] - g[0]) + g[1] >= 10;
        }

        private static int treeOf(State on, int grave) {
            for (int away = 0; away <= 3; away++) {
                for (int tree = 0; tree < on.trees.size(); tree++) {
                    int[] t = on.trees.get(tree);
                    if (t[1] > 0 && Math.abs(t[0] - on.graves.get(grave)[0]) == away) {
                        return tree;
                    }
                }
            }
            return DeadAsked.NONE;
        }

        private static boolean hearsSome(State on, int grave, int horns) {
            for (int horn = 0; horn < on.horns.size(); horn++) {
                if ((horns & 1 << horn) != 0 && hears(on, grave, horn)) {
                    return true;
                }
            }
            return false;
        }

        private static boolean minds(State on, int grave, int matter, int horns) {
            return hearsSome(on, grave, horns) && (on.graves.get(grave)[3] & matter) != 0
                    && treeOf(on, grave) != DeadAsked.NONE;
        }

        private static int blown(State on, int tree, int hour) {
            int[] loose = {0, 2, 1, 1, 3, 0};
            return on.trees.get(tree)[1] > 0 ? loose[on.trees.get(tree)[2]] * on.winds[hour] : 0;
        }

        // How likely nothing falls from a tree by the graves, and by the wind as well: tenths, over so many tens.
        private static BigInteger[] quiet(State on, int matter, int horns, int hour, int tree, boolean wind) {
            BigInteger above = BigInteger.valueOf(wind ? 10 - blown(on, tree, hour) : 10);
            BigInteger below = TEN;
            for (int grave = 0; grave < on.graves.size(); grave++) {
                if (minds(on, grave, matter, horns) && treeOf(on, grave) == tree) {
                    above = above.multiply(BigInteger.valueOf(10 - on.graves.get(grave)[2]));
                    below = below.multiply(TEN);
                }
            }
            return new BigInteger[] {above, below};
        }

        private static BigInteger[] passes(State on, int matter, int horns, int hour) {
            BigInteger above = BigInteger.ONE;
            BigInteger below = BigInteger.ONE;
            for (int tree = 0; tree < on.trees.size(); tree++) {
                BigInteger[] quiet = quiet(on, matter, horns, hour, tree, true);
                above = above.multiply(quiet[0]);
                below = below.multiply(quiet[1]);
            }
            return new BigInteger[] {above, below};
        }

        private static long part(BigInteger above, BigInteger below, int what) {
            if (above.signum() == 0) {
                return what;
            }
            BigInteger common = above.gcd(below);
            return (what == 0 ? above : below).divide(common).longValueExact();
        }

        private static boolean isBad(int matter, int horns, int hour) {
            return out(matter, 1, 15) || out(horns, 0, 15) || out(hour, 0, 11);
        }

        // ---- acts

        private void act() {
            before.add(hill.copied());
            if (before.size() > 24) {
                before.remove(0);
            }
        }

        long ask(int matter, int horns, int hour, int seed) {
            if (hill == null) {
                return Check.STATE;
            }
            if (isBad(matter, horns, hour) || out(seed, 1, 999999)) {
                return Check.BAD;
            }
            act();
            State ahead = hill.copied();
            BigInteger x = BigInteger.valueOf(seed);
            BigInteger by = BigInteger.valueOf(16807);
            BigInteger rest = BigInteger.valueOf(2147483647);
            long fallen = 0;
            for (int tree = 0; tree < ahead.trees.size(); tree++) {
                if (ahead.trees.get(tree)[1] == 0) {
                    continue;
                }
                List<Integer> tenths = new ArrayList<>();
                tenths.add(blown(ahead, tree, hour));
                for (int grave = 0; grave < ahead.graves.size(); grave++) {
                    if (minds(ahead, grave, matter, horns) && treeOf(ahead, grave) == tree) {
                        tenths.add(ahead.graves.get(grave)[2]);
                    }
                }
                int times = 0;
                for (int tenth : tenths) {
                    x = x.multiply(by).mod(rest);
                    times += x.mod(TEN).intValue() < tenth ? 1 : 0;
                }
                if (times > 0) {
                    fallen += 1L << tree;
                    hill.trees.get(tree)[1]--;
                }
            }
            return fallen;
        }

        long pick(int tree, int n) {
            if (out(tree, 0, shown().trees.size() - 1) || out(n, 1, 9)) {
                return Check.BAD;
            }
            if (hill.trees.get(tree)[1] < n) {
                return Check.STATE;
            }
            act();
            hill.trees.get(tree)[1] -= n;
            return hill.trees.get(tree)[1];
        }

        long move(int grave, int x) {
            if (out(grave, 0, shown().graves.size() - 1) || out(x, 0, 30)) {
                return Check.BAD;
            }
            act();
            int was = hill.graves.get(grave)[0];
            hill.graves.get(grave)[0] = x;
            return was;
        }

        long crack(int horn) {
            if (out(horn, 0, shown().horns.size() - 1)) {
                return Check.BAD;
            }
            if (hill.horns.get(horn)[2] == 1) {
                return Check.STATE;
            }
            act();
            hill.horns.get(horn)[2] = 1;
            return 1;
        }

        long undo() {
            if (before.isEmpty()) {
                return Check.STATE;
            }
            hill = before.remove(before.size() - 1);
            return before.size();
        }

        long image(int k) {
            if (out(k, 0, 1)) {
                return Check.BAD;
            }
            if (hill == null) {
                return Check.STATE;
            }
            images[k] = hill.copied();
            return 1;
        }

        long restore(int k) {
            if (out(k, 0, 1)) {
                return Check.BAD;
            }
            if (images[k] == null) {
                return Check.STATE;
            }
            hill = images[k].copied();
            before.clear();
            return 1;
        }

        // ---- told and foretold

        long grave(int grave, int what) {
            if (out(grave, 0, shown().graves.size() - 1) || out(what, 0, 5)) {
                return Check.BAD;
            }
            if (what < 4) {
                return hill.graves.get(grave)[what];
            }
            if (what == 4) {
                return treeOf(hill, grave);
            }
            long heard = 0;
            for (int horn = 0; horn < hill.horns.size(); horn++) {
                heard += hears(hill, grave, horn) ? 1L << horn : 0;
            }
            return heard;
        }

        long tree(int tree, int what) {
            if (out(tree, 0, shown().trees.size() - 1) || out(what, 0, 3)) {
                return Check.BAD;
            }
            if (what < 2) {
                return hill.trees.get(tree)[what];
            }
            if (what == 2) {
                return new int[] {0, 2, 1, 1, 3, 0}[hill.trees.get(tree)[2]];
            }
            long owners = 0;
            for (int grave = 0; grave < hill.graves.size(); grave++) {
                owners += treeOf(hill, grave) == tree ? 1L << grave : 0;
            }
            return owners;
        }

        long minds(int matter, int horns) {
            if (hill == null) {
                return Check.STATE;
            }
            if (isBad(matter, horns, 0)) {
                return Check.BAD;
            }
            long minding = 0;
            for (int grave = 0; grave < hill.graves.size(); grave++) {
                minding += minds(hill, grave, matter, horns) ? 1L << grave : 0;
            }
            return minding;
        }

        long odds(int matter, int horns, int hour, int what) {
            if (hill == null) {
                return Check.STATE;
            }
            if (isBad(matter, horns, hour) || out(what, 0, 1)) {
                return Check.BAD;
            }
            BigInteger[] odds = passes(hill, matter, horns, hour);
            return part(odds[0], odds[1], what);
        }

        long how(int matter, int q, int a, int b) {
            if (hill == null) {
                return Check.STATE;
            }
            if (out(matter, 1, 15) || out(q, 0, 5) || out(a, 0, 11) || out(b, 0, 11) || a > b) {
                return Check.BAD;
            }
            long best = DeadAsked.NONE;
            BigInteger[] greatest = {BigInteger.valueOf(-1), BigInteger.ONE};
            for (int hour = a; hour <= b; hour++) {
                for (int horns = 0; horns < 1 << hill.horns.size(); horns++) {
                    int hearing = 0;
                    for (int grave = 0; grave < hill.graves.size(); grave++) {
                        hearing += hearsSome(hill, grave, horns) ? 1 : 0;
                    }
                    BigInteger[] odds = passes(hill, matter, horns, hour);
                    if (hearing >= q && odds[0].multiply(greatest[1]).compareTo(greatest[0].multiply(odds[1])) > 0) {
                        greatest = odds;
                        best = 16 * hour + horns;
                    }
                }
            }
            return best;
        }

        long fell(int matter, int horns, int hour, int tree, int what) {
            if (hill == null) {
                return Check.STATE;
            }
            if (isBad(matter, horns, hour) || out(tree, 0, hill.trees.size() - 1) || out(what, 0, 2)) {
                return Check.BAD;
            }
            if (what == 2) {
                long who = 0;
                for (int grave = 0; grave < hill.graves.size(); grave++) {
                    boolean can = minds(hill, grave, matter, horns) && treeOf(hill, grave) == tree;
                    who += can && hill.graves.get(grave)[2] >= 1 ? 1L << grave : 0;
                }
                return who;
            }
            BigInteger[] byGraves = quiet(hill, matter, horns, hour, tree, false);
            BigInteger[] byAll = quiet(hill, matter, horns, hour, tree, true);
            return part(byGraves[1].subtract(byGraves[0]), byAll[1].subtract(byAll[0]), what);
        }

        long picks(int matter, int horns, int hour, int s) {
            if (hill == null) {
                return Check.STATE;
            }
            if (isBad(matter, horns, hour) || out(s, 0, 1000)) {
                return Check.BAD;
            }
            for (int many = 0; many <= hill.trees.size(); many++) {
                for (int gone = 0; gone < 1 << hill.trees.size(); gone++) {
                    State left = hill.copied();
                    for (int tree = 0; tree < left.trees.size(); tree++) {
                        left.trees.get(tree)[1] = (gone & 1 << tree) != 0 ? 0 : left.trees.get(tree)[1];
                    }
                    BigInteger[] odds = passes(left, matter, horns, hour);
                    if (Integer.bitCount(gone) == many && odds[0].multiply(BigInteger.valueOf(1000))
                            .compareTo(odds[1].multiply(BigInteger.valueOf(s))) >= 0) {
                        return gone;
                    }
                }
            }
            return DeadAsked.NONE;
        }

        long council(int horns, int a, int row, int i, int n, int what) {
            if (hill == null) {
                return Check.STATE;
            }
            if (out(horns, 0, 15) || out(a, 0, 11) || out(row, 0, 7) || out(n, 1, 2) || out(what, 0, 1)
                    || a + n - 1 > 11) {
                return Check.BAD;
            }
            if (rows[row] == null) {
                return found(1);
            }
            if (beyond(rows[row], i, n)) {
                return found(2);
            }
            BigInteger above = BigInteger.ONE;
            BigInteger below = BigInteger.ONE;
            for (int k = 0; k < n; k++) {
                if (out(rows[row][i + k], 1, 15)) {
                    return Check.BAD;
                }
                BigInteger[] odds = passes(hill, rows[row][i + k], horns, a + k);
                above = above.multiply(odds[0]);
                below = below.multiply(odds[1]);
            }
            return fine(part(above, below, what));
        }

        // ---- kinds: each ask goes up from the kind to the nearest body.

        long kind(int tree) {
            return out(tree, 0, shown().trees.size() - 1) ? Check.BAD : hill.trees.get(tree)[2];
        }

        long as(int tree, int kind) {
            if (out(tree, 0, shown().trees.size() - 1) || out(kind, 0, 5)) {
                return Check.BAD;
            }
            for (int k = hill.trees.get(tree)[2]; k >= 0; k = PARENTS[k]) {
                if (k == kind) {
                    return fine(tree);
                }
            }
            return found(3);
        }

        long shape(int tree, int what) {
            if (out(tree, 0, shown().trees.size() - 1) || out(what, 0, 1)) {
                return Check.BAD;
            }
            trace = new ArrayList<>();
            return asked(tree, what);
        }

        private long asked(int tree, int what) {
            int[][] bodies = {{10, 11, -1, 12, 13, 14}, {20, 21, 22, 24, 23, -1}};
            int kind = hill.trees.get(tree)[2];
            while (bodies[what][kind] < 0) {
                kind = PARENTS[kind];
            }
            return body(tree, bodies[what][kind]);
        }

        private long body(int tree, int body) {
            trace.add(body);
            switch (body) {
                case 10:
                    return hill.trees.get(tree)[1];
                case 11:
                    return body(tree, 10) + asked(tree, 1);
                case 12:
                    return 0 - body(tree, 11);
                case 13:
                    return body(tree, 10) - asked(tree, 1);
                case 14:
                    return 2 * body(tree, 13);
                case 20:
                    return tree;
                case 21:
                    return body(tree, 20) + hill.trees.get(tree)[0];
                case 22:
                    return body(tree, 21) - 1000;
                case 23:
                    return body(tree, 20) + 10 * tree(tree, 2);
                default:
                    return 2 * body(tree, 22);
            }
        }

        long trace(int i) {
            return i >= 0 && i < Math.min(16, trace.size()) ? trace.get(i) : DeadAsked.NONE;
        }

        long count(int what) {
            State on = shown();
            switch (what) {
                case 0:
                    return Arrays.stream(rows).filter(row -> row != null).count();
                case 1:
                    return on.graves.size();
                case 2:
                    return on.horns.stream().filter(horn -> horn[2] == 0).count();
                case 3:
                    return on.trees.size();
                case 4:
                    return before.size();
                case 5:
                    return on.trees.stream().mapToInt(tree -> tree[1]).sum();
                case 6:
                    return tape.length();
                default:
                    return Check.BAD;
            }
        }
    }
}
