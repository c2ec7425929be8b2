import java.io.IOException;
import java.lang.reflect.Method;
import java.nio.file.Files;
import java.nio.file.Path;
import java.util.Set;
import java.util.TreeSet;
import java.util.regex.Matcher;
import java.util.regex.Pattern;

/** What README.md tells of the class is so: its example's answers, and that no call or refusal is left out. */
public final class ReadmeTests {
    private static final Pattern STEP = Pattern.compile(
            "(?m)^ {4}(?:feedText\\(x, \"([^\"]*)\"\\);|x\\.(\\w+)\\(([^)]*)\\); +// (NOT - )?(-?\\d+).*)$");

    private ReadmeTests() {
    }

    public static void main(String[] args) throws Exception {
        String readme = Files.readString(Path.of("README.md"));
        exampleAnswersAsTold(readme);
        callsAreTold(readme);
        refusalsAreTold(readme);
        Check.end("ReadmeTests");
    }

    private static void exampleAnswersAsTold(String readme) throws ReflectiveOperationException {
        DeadAsked x = new DeadAsked();
        int answers = 0;
        Matcher step = STEP.matcher(readme);
        while (step.find()) {
            if (step.group(1) != null) {
                Check.feedText(x, step.group(1));
            } else {
                long told = Long.parseLong(step.group(5));
                String call = step.group(2) + "(" + step.group(3) + ")";
                Check.due("README's " + call, made(x, step.group(2), step.group(3)),
                        step.group(4) == null ? told : DeadAsked.NOT - told);
                answers++;
            }
        }
        int lines = readme.split("\n {4}x\\.").length - 1;
        Check.due("README's calls that were made", answers, lines);
        Check.due("README has an example", answers > 0 ? 1 : 0, 1);
    }

    private static long made(DeadAsked x, String name, String numbers) throws ReflectiveOperationException {
        for (Method method : DeadAsked.class.getMethods()) {
            if (method.getName().equals(name)) {
                String[] told = numbers.isEmpty() ? new String[0] : numbers.split(", ");
                Object[] values = new Object[told.length];
                for (int k = 0; k < told.length; k++) {
                    values[k] = method.getParameterTypes()[k] == long.class
                            ? (Object) Long.valueOf(told[k]) : (Object) Integer.valueOf(told[k]);
                }
                return ((Number) method.invoke(x, values)).longValue();
            }
        }
        throw new NoSuchMethodException(name);
    }

    private static void callsAreTold(String readme) throws IOException {
        Set<String> told = new TreeSet<>();
        Matcher line = Pattern.compile("(?m)^\\| `(\\w+\\([^)]*\\))` \\| \\S").matcher(readme);
        while (line.find()) {
            told.add(line.group(1));
        }
        Set<String> asked = new TreeSet<>();
        String document = Files.readString(Path.of("../shared/DOC.md"));
        Matcher face = Pattern.compile("public (?:long|int) (\\w+\\([^)]*\\));").matcher(document);
        while (face.find()) {
            asked.add(face.group(1).replaceAll("\\b(?:long|int) ", ""));
        }
        Check.due("calls of the document", asked.size(), 28);
        Check.due("README's calls are the document's: " + told, told.equals(asked) ? 1 : 0, 1);
    }

    private static void refusalsAreTold(String readme) {
        String[] names = {"BAD", "STATE", "FULL", "NULL", "PLACE", "KIND", "SIZE", "STORE"};
        long[] answers = {Check.BAD, Check.STATE, Check.FULL, Check.NULL, Check.PLACE, Check.KIND, Check.SIZE,
            Check.STORE};
        for (int k = 0; k < names.length; k++) {
            String line = "\n| `NOT - " + (DeadAsked.NOT - answers[k]) + "` | " + names[k] + " | ";
            Check.due("README tells " + names[k], readme.contains(line) ? 1 : 0, 1);
        }
        Check.due("README tells NOT", readme.contains("" + DeadAsked.NOT) ? 1 : 0, 1);
        Check.due("README tells NONE", readme.contains("" + DeadAsked.NONE) ? 1 : 0, 1);
    }
}
