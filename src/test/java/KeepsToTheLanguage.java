import java.io.IOException;
import java.nio.file.Files;
import java.nio.file.Path;
import java.util.ArrayList;
import java.util.List;
import java.util.Set;
import java.util.regex.Matcher;
import java.util.regex.Pattern;

/** Looks through the class's text for what LANGUAGE.md rules out, as far as a text can tell it. */
public final class KeepsToTheLanguage {
    private static final Path SOURCE = Path.of("src/main/java/HingeFrames.java");
    private static final String[] FACE = {"joint", "bar", "pin", "strength", "load", "group", "feed", "sheet", "free", "falls",
        "greatest", "fall", "only", "worth", "bends", "turning", "bound", "rolls", "out", "list", "metal", "undo", "redo",
        "look", "place", "count"};
    private static final Set<String> LIBRARY = Set.of("Math.abs", "Math.max", "Math.min", "Long.compare", "Integer.bitCount",
        "Arrays.fill", "System.arraycopy");
    private static int wrong = 0;

    public static void main(String[] args) throws IOException {
        String text = withoutComments(Files.readString(SOURCE));
        checkWords(text);
        checkLibrary(text);
        checkFace(text);
        checkMethods(text.split("\n"));
        System.out.println(wrong == 0 ? "the text keeps to the rules" : wrong + " rules broken");
        if (wrong != 0) {
            System.exit(1);
        }
    }

    private static void say(String what) {
        wrong++;
        System.out.println(what);
    }

    private static String withoutComments(String text) {
        String none = Pattern.compile("/\\*.*?\\*/", Pattern.DOTALL).matcher(text).replaceAll("");
        return none.replaceAll("//[^\n]*", "");
    }

    private static void checkWords(String text) {
        String[] words = {"throw", "throws", "try", "catch", "finally", "synchronized", "assert", "var", "protected", "native",
            "volatile", "Thread", "Random", "instanceof", "hashCode", "String", "float", "double", "package"};
        for (String w : words) {
            if (Pattern.compile("\\b" + w + "\\b").matcher(text).find()) {
                say("rule 6 or 13, or a thing that the class needs no more: " + w);
            }
        }
        if (text.contains("->") || text.contains("::")) {
            say("rule 2: a lambda or a method reference");
        }
        if (Pattern.compile("\\bstatic\\s*\\{").matcher(text).find()) {
            say("rule 5: a static block");
        }
        Matcher field = Pattern.compile("static (?!final )[\\w\\[\\]]+ \\w+\\s*[=;]").matcher(text);
        if (field.find()) {
            say("rule 5: " + field.group());
        }
        for (int i = 0; i < text.length(); i++) {
            if (text.charAt(i) > 126) {
                say("a sign above 126 at " + i);
            }
        }
    }

    private static void checkLibrary(String text) {
        Matcher m = Pattern.compile("\\b(Math|Long|Integer|Arrays|System)\\.(\\w+)").matcher(text);
        while (m.find()) {
            if (!LIBRARY.contains(m.group())) {
                say("rule 4: " + m.group());
            }
        }
        Matcher imports = Pattern.compile("import ([\\w.*]+);").matcher(text);
        while (imports.find()) {
            if (!imports.group(1).equals("java.util.Arrays")) {
                say("rule 4: " + imports.group());
            }
        }
        if (Pattern.compile("\\bwhile \\((?!k < size)").matcher(text).find()) {
            say("rule 9: a while whose end is not a counter's");
        }
    }

    private static void checkFace(String text) {
        List<String> names = new ArrayList<>();
        Matcher m = Pattern.compile("\n    public (?:int|long|boolean) (\\w+)\\(").matcher(text);
        while (m.find()) {
            names.add(m.group(1));
        }
        if (!names.equals(List.of(FACE))) {
            say("rule 1: the face is " + names);
        }
        for (String name : FACE) {
            Matcher again = Pattern.compile("(?:int|long|boolean|void|Frame|Falls|Shape|Limit) " + name + "\\(").matcher(text);
            int times = 0;
            while (again.find()) {
                times++;
            }
            if (times != 1) {
                say("rule 1: another method bears the name " + name);
            }
        }
        Matcher open = Pattern.compile("\n    (?!public |private |\\}| |@)(\\S[^\n]*)").matcher(text);
        while (open.find()) {
            say("rule 1: a member that is not private: " + open.group(1));
        }
        Matcher inner = Pattern.compile("\\bclass (\\w+)").matcher(text);
        int classes = 0;
        while (inner.find()) {
            classes++;
        }
        if (classes > 12) {
            say("rule 11: " + classes + " classes");
        }
    }

    private static void checkMethods(String[] lines) {
        Pattern head = Pattern.compile("(    |        )(?! )[\\w\\[\\] ]+\\(([^)]*)\\) \\{");
        for (int i = 0; i < lines.length; i++) {
            Matcher m = head.matcher(lines[i]);
            if (!m.matches()) {
                continue;
            }
            if (m.group(2).split(",").length > 7) {
                say("rule 11: more than seven parameters: " + lines[i]);
            }
            int end = i;
            while (end < lines.length && !lines[end].equals(m.group(1) + "}")) {
                end++;
            }
            if (end - i > 60) {
                say("rule 11: a long method: " + lines[i]);
            }
        }
    }
}
