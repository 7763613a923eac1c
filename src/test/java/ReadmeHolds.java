import java.io.File;
import java.io.IOException;
import java.lang.reflect.InvocationTargetException;
import java.lang.reflect.Method;
import java.lang.reflect.Modifier;
import java.nio.file.Files;
import java.nio.file.Path;
import java.util.ArrayList;
import java.util.List;
import java.util.Set;
import java.util.TreeSet;
import java.util.regex.Matcher;
import java.util.regex.Pattern;

/**
 * Makes each call that README.md shows, and compares its answer with the one that stands beside it.
 * Every line of an example is a call or makes a new object, so that none is left out unseen.
 */
public final class ReadmeHolds {
    private static final Path README = Path.of("README.md");
    private static final Path DOCUMENT = Path.of("../shared/DOC.md");
    private static final String USED = "An object is used for at most 512 calls after it has been made; what later calls answer is free.";
    private static final String MADE = "HingeFrames x = new HingeFrames();";
    private static final Pattern EXAMPLE = Pattern.compile("```java\n(.*?)```", Pattern.DOTALL);
    private static final Pattern CALL = Pattern.compile("x\\.(\\w+)\\(([^)]*)\\);\\s+// (-?\\d+|true|false)(?:: \\S.*)?");
    private static final Set<String> REFUSED = Set.of("-1", "false", "-1000", "-1000000000000");
    private static final Set<String> shown = new TreeSet<>();
    private static final Set<String> shownRefused = new TreeSet<>();
    private static HingeFrames x = null;
    private static int callsOfOne = 0;
    private static int calls = 0;
    private static int wrong = 0;

    public static void main(String[] args) throws IOException, ReflectiveOperationException {
        String readme = Files.readString(README);
        Matcher example = EXAMPLE.matcher(readme);
        while (example.find()) {
            for (String line : example.group(1).split("\n")) {
                playLine(line);
            }
        }
        checkWrongAnswersAreTold();
        checkAllMethodsAreShown();
        checkWords(readme);
        checkTestsAreNamed(readme);
        System.out.println(calls + " calls of README.md, " + wrong + " wrong");
        if (wrong != 0) {
            System.exit(1);
        }
    }

    private static void say(String what) {
        wrong++;
        System.out.println(what);
    }

    private static void playLine(String line) throws ReflectiveOperationException {
        Matcher call = CALL.matcher(line);
        if (line.equals(MADE)) {
            x = new HingeFrames();
            callsOfOne = 0;
        } else if (x == null || !call.matches()) {
            say("README.md: no call with its answer: " + line);
        } else {
            calls++;
            callsOfOne++;
            note(call.group(1), call.group(3));
            String got = answer(call.group(1), call.group(2));
            if (!got.equals(call.group(3))) {
                say("README.md: " + line + " - answered " + got);
            }
            if (callsOfOne > 512) {
                say("README.md: more than 512 calls on one object: " + line);
            }
        }
    }

    private static void note(String name, String answer) {
        shown.add(name);
        if (REFUSED.contains(answer)) {
            shownRefused.add(name);
        }
    }

    private static String answer(String name, String list) throws ReflectiveOperationException {
        List<Object> arguments = new ArrayList<>();
        for (String word : list.split(",")) {
            if (!word.isBlank()) {
                arguments.add(argument(word.trim()));
            }
        }
        for (Method m : HingeFrames.class.getDeclaredMethods()) {
            if (Modifier.isPublic(m.getModifiers()) && m.getName().equals(name) && m.getParameterCount() == arguments.size()) {
                return invoke(m, arguments);
            }
        }
        return "nothing: there is no such method";
    }

    private static String invoke(Method m, List<Object> arguments) throws ReflectiveOperationException {
        try {
            return String.valueOf(m.invoke(x, arguments.toArray()));
        } catch (InvocationTargetException thrown) {
            return "by throwing " + thrown.getCause();
        }
    }

    private static Object argument(String word) {
        if (word.equals("true") || word.equals("false")) {
            return Boolean.valueOf(word);
        }
        return word.equals("HingeFrames.NONE") ? HingeFrames.NONE : Integer.decode(word);
    }

    /** A comparison that told nothing would let every line pass. */
    private static void checkWrongAnswersAreTold() throws ReflectiveOperationException {
        x = new HingeFrames();
        String[] right = {"joint", "0, 0, 7", "0", "joint", "0, 0, 7", "-1", "pin", "0, true", "false", "count", "0", "1"};
        for (int i = 0; i < right.length; i += 3) {
            String got = answer(right[i], right[i + 1]);
            if (!got.equals(right[i + 2])) {
                say(right[i] + "(" + right[i + 1] + ") answered " + got + ", due is " + right[i + 2]);
            }
        }
        String[] lines = {"x.joint(0, 0, 7);", "x.joint(0, 0, 7); // none", "y.joint(0, 0, 7); // 0", "x.joint(0, 0, 7); // 0 or 1"};
        for (String line : lines) {
            if (CALL.matcher(line).matches()) {
                say("counted as a call with its answer: " + line);
            }
        }
    }

    private static void checkAllMethodsAreShown() {
        for (Method m : HingeFrames.class.getDeclaredMethods()) {
            if (Modifier.isPublic(m.getModifiers()) && !shown.contains(m.getName())) {
                say("README.md shows no call of " + m.getName());
            }
            // a refused feed() needs ten others before it, so README.md tells it by words
            if (Modifier.isPublic(m.getModifiers()) && !m.getName().equals("feed") && !shownRefused.contains(m.getName())) {
                say("README.md shows no refused call of " + m.getName());
            }
        }
        HingeFrames full = new HingeFrames();
        for (int bytes = 20; bytes <= 200; bytes += 20) {
            if (full.feed(0, 0, 0, 0, 0) != bytes) {
                say("feed() did not answer " + bytes);
            }
        }
        if (full.feed(0, 0, 0, 0, 0) != -1) {
            say("feed() beyond 200 bytes did not answer -1");
        }
    }

    private static void checkWords(String readme) throws IOException {
        if (!readme.contains(USED) || !Files.readString(DOCUMENT).contains(USED)) {
            say("README.md and the document do not both say: " + USED);
        }
        if (!readme.contains("```sh\n.ci/run\n```") || !Files.exists(Path.of(".ci/run"))) {
            say("README.md does not say how to run the tests");
        }
    }

    /** Each test of the project is named, and each that is named is there. */
    private static void checkTestsAreNamed(String readme) {
        File[] tests = new File("src/test/java").listFiles();
        if (tests == null || tests.length == 0) {
            say("no tests of the project");
            return;
        }
        for (File test : tests) {
            String name = test.getName().replace(".java", "");
            if (!readme.contains("`" + name + "`")) {
                say("README.md does not name the test " + name);
            }
        }
        Matcher line = Pattern.compile("\n- ((?:`\\w+`(?:, )?)+): ").matcher(readme);
        while (line.find()) {
            for (String name : line.group(1).split(", ")) {
                if (!Files.exists(Path.of("src/test/java/" + name.replace("`", "") + ".java"))) {
                    say("README.md names a test that is not there: " + name);
                }
            }
        }
    }
}
