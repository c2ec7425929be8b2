import java.lang.reflect.Constructor;
import java.lang.reflect.Field;
import java.lang.reflect.Method;
import java.lang.reflect.Modifier;
import java.nio.charset.StandardCharsets;
import java.nio.file.Files;
import java.nio.file.Path;
import java.util.ArrayDeque;
import java.util.Deque;
import java.util.Map;
import java.util.Set;
import java.util.TreeMap;
import java.util.TreeSet;
import java.util.regex.Matcher;
import java.util.regex.Pattern;

/** The rules of LANGUAGE.md that a look at the class and its source can tell. */
public final class LanguageTests {
    private static final String[] FACE = {
        "long row(int,int,int)", "long set(int,int,int)", "long copy(int,int,int,int,int)", "long drop(int)",
        "long feed(long,int)", "long hill()", "int fault()", "long ask(int,int,int,int)", "long pick(int,int)",
        "long move(int,int)", "long crack(int)", "long undo()", "long grave(int,int)", "long tree(int,int)",
        "long minds(int,int)", "long odds(int,int,int,int)", "long how(int,int,int,int)",
        "long fell(int,int,int,int,int)", "long picks(int,int,int,int)", "long council(int,int,int,int,int,int)",
        "long image(int)", "long restore(int)", "long kind(int)", "long as(int,int)", "long shape(int,int)",
        "int trace(int)", "long count(int)", "int status()"};

    private static final int MOST_DEEP = 8;

    private LanguageTests() {
    }

    public static void main(String[] args) throws Exception {
        faceIsAsTold();
        privateNamesAreTheirOwn();
        classesAreStaticAndSmall();
        sourceHasOnlyWhatIsLeft(Files.readAllBytes(Path.of("src/main/java/DeadAsked.java")));
        Check.end("LanguageTests");
    }

    private static void complain(String what) {
        Check.due(what, 1, 0);
    }

    private static String shown(Method method) {
        StringBuilder shown = new StringBuilder(method.getReturnType() + " " + method.getName() + "(");
        for (int k = 0; k < method.getParameterCount(); k++) {
            shown.append(k > 0 ? "," : "").append(method.getParameterTypes()[k]);
        }
        return shown.append(")").toString();
    }

    private static void faceIsAsTold() {
        Set<String> open = new TreeSet<>();
        for (Method method : DeadAsked.class.getDeclaredMethods()) {
            if (!Modifier.isPrivate(method.getModifiers())) {
                open.add(shown(method));
                Check.due(shown(method) + " is public", Modifier.isPublic(method.getModifiers()) ? 1 : 0, 1);
            }
        }
        Check.due("the face is " + open, open.equals(new TreeSet<>(Set.of(FACE))) ? 1 : 0, 1);
        for (Field field : DeadAsked.class.getDeclaredFields()) {
            boolean told = field.getName().equals("NONE") || field.getName().equals("NOT");
            Check.due("field " + field, Modifier.isPrivate(field.getModifiers()) != told ? 1 : 0, 1);
        }
        Constructor<?>[] constructors = DeadAsked.class.getDeclaredConstructors();
        Check.due("constructors", constructors.length, 1);
        Check.due("public constructor", Modifier.isPublic(constructors[0].getModifiers()) ? 1 : 0, 1);
        Check.due("final class", Modifier.isFinal(DeadAsked.class.getModifiers()) ? 1 : 0, 1);
    }

    private static void privateNamesAreTheirOwn() {
        Set<String> names = new TreeSet<>();
        for (String told : FACE) {
            names.add(told.replaceAll(".* |\\(.*", ""));
        }
        for (Method method : DeadAsked.class.getDeclaredMethods()) {
            if (Modifier.isPrivate(method.getModifiers()) && names.contains(method.getName())) {
                complain("private " + shown(method));
            }
        }
        for (Class<?> inside : DeadAsked.class.getDeclaredClasses()) {
            for (Method method : inside.getDeclaredMethods()) {
                if (names.contains(method.getName())) {
                    complain(inside + " " + shown(method));
                }
            }
        }
    }

    private static void classesAreStaticAndSmall() {
        Class<?>[] inside = DeadAsked.class.getDeclaredClasses();
        Check.due("classes", inside.length < 12 ? 1 : 0, 1);
        for (Class<?> one : inside) {
            Check.due(one + " is static", Modifier.isStatic(one.getModifiers()) ? 1 : 0, 1);
            int fields = 0;
            for (Field field : one.getDeclaredFields()) {
                boolean isStatic = Modifier.isStatic(field.getModifiers());
                fields += isStatic ? 0 : 1;
                if (isStatic && !Modifier.isFinal(field.getModifiers())) {
                    complain("static " + field);
                }
            }
            Check.due(one + " has few fields", fields <= 20 ? 1 : 0, 1);
            for (Method method : one.getDeclaredMethods()) {
                Check.due(method + " has few parameters", method.getParameterCount() <= 7 ? 1 : 0, 1);
            }
        }
    }

    private static void sourceHasOnlyWhatIsLeft(byte[] bytes) {
        for (byte one : bytes) {
            if (one < 1 && one != '\n') {
                complain("a sign beyond 127");
            }
        }
        String source = new String(bytes, StandardCharsets.ISO_8859_1);
        String code = source.replaceAll("\"[^\"\n]*\"", "\"\"").replaceAll("//[^\n]*", "")
                .replaceAll("(?s)/\\*.*?\\*/", "");
        String[] forbidden = {"\\b(throw|throws|try|catch|finally|synchronized|assert|import|package|var|yield)\\b",
            "->", "::", "\\bstatic\\s*\\{", "Exact\\b", "\\b(equals|hashCode|toString|getClass)\\b",
            "\\b(Object|System\\.(?!arraycopy)|Thread|Random|Character|Byte|Short|Boolean|Double|Float)\\b",
            "\\b(float|double)\\b", "\\bwhile\\s*\\(true\\)", "for\\s*\\(;;"};
        for (String one : forbidden) {
            Matcher matcher = Pattern.compile(one).matcher(code);
            if (matcher.find()) {
                complain("the source has " + matcher.group());
            }
        }
        methodsAreShortAndShallow(code);
    }

    private static void methodsAreShortAndShallow(String code) {
        Map<String, Set<String>> calls = new TreeMap<>();
        String head = "(?s)\\n( {4}| {8})(?! |\\}|//|/\\*)[^;{}]*?(\\w+)\\([^;{}]*\\)\\s*\\{\\n";
        Matcher bodies = Pattern.compile(head + "(.*?)\\n\\1\\}").matcher(code);
        while (bodies.find()) {
            if (bodies.group(3).split("\n").length > 60) {
                complain("a long method: " + bodies.group(2));
            }
            calls.computeIfAbsent(bodies.group(2), name -> new TreeSet<>()).addAll(callsOf(bodies.group(3)));
        }
        Check.due("methods were looked at", calls.size() > 80 ? 1 : 0, 1);
        for (String name : calls.keySet()) {
            int depth = depthOf(name, calls, new ArrayDeque<>());
            Check.due("calls below " + name + " are few", depth <= MOST_DEEP ? 1 : 0, 1);
        }
    }

    private static Set<String> callsOf(String body) {
        Set<String> called = new TreeSet<>();
        Matcher matcher = Pattern.compile("\\b(\\w+)\\(").matcher(body);
        while (matcher.find()) {
            called.add(matcher.group(1));
        }
        return called;
    }

    // By names alone: methods of one name in two classes are taken as one, which tells too much, never too little.
    private static int depthOf(String name, Map<String, Set<String>> calls, Deque<String> open) {
        if (open.contains(name)) {
            complain("a recursion: " + name + " in " + open);
            return 0;
        }
        open.push(name);
        int below = 0;
        for (String called : calls.get(name)) {
            if (calls.containsKey(called)) {
                below = Math.max(below, depthOf(called, calls, open));
            }
        }
        open.pop();
        return below + 1;
    }
}
