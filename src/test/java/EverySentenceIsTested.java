import java.io.IOException;
import java.nio.file.Files;
import java.nio.file.Path;
import java.util.ArrayList;
import java.util.List;
import java.util.regex.Matcher;
import java.util.regex.Pattern;

/**
 * Holds the words that the tests quote by says() against the document: each quote stands there,
 * and no words of the terms and of the promises are left that no test quotes.
 */
public final class EverySentenceIsTested {
    private static final Path DOCUMENT = Path.of("../shared/DOC.md");
    private static final String[] TESTS = {"EdgesOfPromises", "EdgesOfTerms", "RefusedCallsChangeNothing"};
    private static final Pattern QUOTE = Pattern.compile("\\bsays\\((?:(\\d+), )?\"((?:[^\"\\\\]|\\\\.)*)\"\\);");
    private static final int PROMISES = 27;
    private static int wrong = 0;

    public static void main(String[] args) throws IOException {
        String document = Files.readString(DOCUMENT);
        String[] parts = new String[PROMISES + 1];
        parts[0] = terms(document);
        for (int p = 1; p <= PROMISES; p++) {
            parts[p] = promise(document, p);
        }
        List<String> quotes = new ArrayList<>();
        List<Integer> places = new ArrayList<>();
        for (String test : TESTS) {
            Matcher m = QUOTE.matcher(Files.readString(Path.of("src/test/java/" + test + ".java")));
            while (m.find()) {
                places.add(m.group(1) == null ? 0 : Integer.parseInt(m.group(1)));
                quotes.add(m.group(2));
            }
        }
        checkQuotes(parts, quotes, places);
        System.out.println(quotes.size() + " quotes, " + wrong + " wrong");
        if (wrong != 0) {
            System.exit(1);
        }
    }

    private static void checkQuotes(String[] parts, List<String> quotes, List<Integer> places) {
        String[] left = parts.clone();
        List<Integer> order = new ArrayList<>();
        for (int i = 0; i < quotes.size(); i++) {
            order.add(i);
        }
        // the longest first, so that a short one does not take words out of the midst of a longer one
        order.sort((a, b) -> quotes.get(b).length() - quotes.get(a).length());
        for (int i : order) {
            int p = places.get(i);
            if (p > PROMISES || !parts[p].contains(quotes.get(i))) {
                say("promise " + p + " (0: the terms) does not say: " + quotes.get(i));
            } else {
                left[p] = left[p].replace(quotes.get(i), " | ");
            }
        }
        for (int p = 0; p <= PROMISES; p++) {
            for (String words : left[p].split("\\|")) {
                if (Pattern.compile("\\w").matcher(words).find()) {
                    say("promise " + p + " (0: the terms): no test quotes: " + words.trim());
                }
            }
        }
    }

    private static void say(String what) {
        wrong++;
        System.out.println(what);
    }

    /** The sentence on how long an object is used, and all from Terms to the first promise, without headings and marks. */
    private static String terms(String document) {
        String used = between(document, "An object is used", "\n## The public face");
        String terms = between(document, "\nJOINTS 0 to 6", "\n## Promise 1:");
        String all = used.replace("what later calls answer is free.", "") + " " + terms;
        return plain(all.replace("```text", "").replace("```", "").replaceAll("==== \\d\\.", "").replace("The constants:", ""));
    }

    private static String promise(String document, int p) {
        String next = p < PROMISES ? "\n## Promise " + (p + 1) + ":" : "\n## Not promised";
        String text = between(document, "\n## Promise " + p + ":", next);
        return plain(text.substring(Math.max(0, text.indexOf("`:") + 2)));
    }

    private static String between(String text, String from, String to) {
        int start = text.indexOf(from);
        int end = text.indexOf(to, Math.max(0, start));
        if (start < 0 || end < 0) {
            say("the document has no part from \"" + from + "\" to \"" + to + "\"");
            return "";
        }
        return text.substring(start, end);
    }

    private static String plain(String text) {
        return text.replaceAll("\\s+", " ");
    }
}
