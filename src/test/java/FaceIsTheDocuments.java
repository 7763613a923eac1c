import java.io.IOException;
import java.lang.reflect.Constructor;
import java.lang.reflect.Field;
import java.lang.reflect.Method;
import java.lang.reflect.Modifier;
import java.nio.file.Files;
import java.nio.file.Path;
import java.util.Set;
import java.util.TreeSet;
import java.util.regex.Matcher;
import java.util.regex.Pattern;

/**
 * "The public face": what the document writes out there is what the class shows, with the same
 * types, and nothing else; and each promise's head is one of these.
 */
public final class FaceIsTheDocuments {
    private static final Path DOCUMENT = Path.of("../shared/DOC.md");
    private static int wrong = 0;

    public static void main(String[] args) throws IOException, ReflectiveOperationException {
        String document = Files.readString(DOCUMENT);
        Set<String> due = new TreeSet<>();
        int start = document.indexOf("```java");
        int end = document.indexOf("```", start + 3);
        if (start < 0 || end < 0) {
            say("the document writes out no face");
        } else {
            for (String line : document.substring(start + 7, end).trim().split("\n")) {
                due.add(plain(line.trim()));
            }
            due.remove("}");
        }
        compare(due, face());
        checkPromises(document, due);
        System.out.println(due.size() + " lines of the face, " + wrong + " wrong");
        if (wrong != 0) {
            System.exit(1);
        }
    }

    private static void say(String what) {
        wrong++;
        System.out.println(what);
    }

    /** A line of the document without the names of the arguments. */
    private static String plain(String line) {
        int open = line.indexOf('(');
        int close = line.indexOf(')');
        if (open < 0 || close < open) {
            return line;
        }
        String types = line.substring(open + 1, close).replaceAll("(\\w+) \\w+", "$1");
        return line.substring(0, open + 1) + types + line.substring(close);
    }

    private static Set<String> face() throws ReflectiveOperationException {
        Class<?> c = HingeFrames.class;
        Set<String> face = new TreeSet<>();
        face.add(Modifier.toString(c.getModifiers()) + " class " + c.getName() + " {");
        for (Field f : c.getDeclaredFields()) {
            if (!Modifier.isPrivate(f.getModifiers())) {
                face.add(Modifier.toString(f.getModifiers()) + " " + f.getType() + " " + f.getName() + " = " + f.get(null) + ";");
            }
        }
        for (Constructor<?> k : c.getDeclaredConstructors()) {
            if (!Modifier.isPrivate(k.getModifiers())) {
                face.add(Modifier.toString(k.getModifiers()) + " " + c.getName() + "(" + names(k.getParameterTypes()) + ");");
            }
        }
        for (Method m : c.getDeclaredMethods()) {
            if (!Modifier.isPrivate(m.getModifiers())) {
                face.add(Modifier.toString(m.getModifiers()) + " " + m.getReturnType() + " " + m.getName() + "(" + names(m.getParameterTypes()) + ");");
            }
            if (m.getExceptionTypes().length != 0) {
                say(m.getName() + " says that it throws");
            }
        }
        return face;
    }

    private static String names(Class<?>[] types) {
        String[] names = new String[types.length];
        for (int i = 0; i < types.length; i++) {
            names[i] = types[i].getName();
        }
        return String.join(", ", names);
    }

    private static void compare(Set<String> due, Set<String> is) {
        for (String line : due) {
            if (!is.contains(line)) {
                say("the class lacks: " + line);
            }
        }
        for (String line : is) {
            if (!due.contains(line)) {
                say("the document does not write out: " + line);
            }
        }
        Class<?> above = HingeFrames.class.getSuperclass();
        if (above != Object.class || HingeFrames.class.getInterfaces().length != 0 || !HingeFrames.class.getPackageName().isEmpty()) {
            say("the class has a package, or is of another class or interface");
        }
    }

    private static void checkPromises(String document, Set<String> due) {
        Matcher head = Pattern.compile("## Promise (\\d+): [^\n]*\n\n`([^`]+)`:").matcher(document);
        int promises = 0;
        while (head.find()) {
            promises++;
            if (!due.contains("public " + plain(head.group(2)) + ";")) {
                say("promise " + head.group(1) + " is not of the face: " + head.group(2));
            }
        }
        if (promises != 27) {
            say(promises + " promises");
        }
    }
}
