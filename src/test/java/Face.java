import java.io.IOException;
import java.lang.reflect.Constructor;
import java.lang.reflect.Field;
import java.lang.reflect.Method;
import java.lang.reflect.Modifier;
import java.nio.file.Files;
import java.nio.file.Path;
import java.util.Arrays;
import java.util.Set;
import java.util.TreeSet;
import java.util.regex.Matcher;
import java.util.regex.Pattern;

/** The class shows the document's face and nothing else, and its text keeps to the language's rules. */
public final class Face {
    private static final String[] METHODS = {
        "interval(int, int, int, boolean)", "capacity(int, int)", "need(int, int, int)", "pause(int, int, int)",
        "calendar(int, int)", "row(int, int)", "kind(int, int)", "change(int, int, int, int)", "triangle(int)",
        "before(int, int, int)", "store(int, int, int, int)", "event(int, int, boolean, int)", "option(int, int)",
        "fix(int, int, int)", "narrow()", "told(int)", "about(int, int)", "keep()", "back()", "solve(int)",
        "plan(int)", "count(int)", "use(int, int)", "check()"
    };
    private static final String[] CONSTANTS = {"BAD", "NONE", "FULL", "CUT"};
    private static final String[] WORDS = {
        "throw", "try", "catch", "synchronized", "assert", "->", "::", "hashCode", "package", "protected"
    };
    private static int wrong = 0;

    private static void due(String what, Object got, Object want) {
        if (!got.equals(want)) {
            wrong++;
            System.out.println(what + ": " + got + ", due is " + want);
        }
    }

    public static void main(String[] args) throws IOException {
        Class<?> face = TimeResources.class;
        due("public and final", Modifier.isPublic(face.getModifiers()) && Modifier.isFinal(face.getModifiers()), true);
        methods(face);
        fields(face);
        Constructor<?>[] constructors = face.getDeclaredConstructors();
        due("constructors", constructors.length, 1);
        due("its parameters", constructors[0].getParameterCount(), 0);
        due("it is public", Modifier.isPublic(constructors[0].getModifiers()), true);
        Class<?>[] inside = face.getDeclaredClasses();
        due("at most twelve classes", inside.length <= 11, true);
        for (Class<?> c : inside) {
            due(c + " is static", Modifier.isStatic(c.getModifiers()), true);
            due(c + " has at most twenty fields", c.getDeclaredFields().length <= 20, true);
            ownMethods(c);
        }
        ownMethods(face);
        words();
        System.out.println(wrong == 0 ? "the face is as due" : wrong + " things are not as due");
        if (wrong != 0) {
            System.exit(1);
        }
    }

    private static void methods(Class<?> face) {
        Set<String> seen = new TreeSet<>();
        for (Method m : face.getDeclaredMethods()) {
            if (!Modifier.isPrivate(m.getModifiers())) {
                String parameters = Arrays.toString(m.getParameterTypes());
                seen.add(m.getName() + "(" + parameters.substring(1, parameters.length() - 1) + ")");
                due(m + " answers an int", m.getReturnType(), int.class);
                due(m + " is public", Modifier.isPublic(m.getModifiers()), true);
            }
        }
        due("methods", seen, new TreeSet<>(Arrays.asList(METHODS)));
    }

    private static void ownMethods(Class<?> c) {
        Set<String> faceNames = new TreeSet<>();
        for (String method : METHODS) {
            faceNames.add(method.substring(0, method.indexOf('(')));
        }
        for (Method m : c.getDeclaredMethods()) {
            due(m + " has at most seven parameters", m.getParameterCount() <= 7, true);
            if (!Modifier.isPublic(m.getModifiers())) {
                due(m + " bears a public one's name", faceNames.contains(m.getName()), false);
            }
        }
    }

    private static void fields(Class<?> face) {
        Set<String> seen = new TreeSet<>();
        for (Field f : face.getDeclaredFields()) {
            if (!Modifier.isPrivate(f.getModifiers())) {
                seen.add(f.getName());
                due(f + " is an int", f.getType(), int.class);
            }
            if (Modifier.isStatic(f.getModifiers())) {
                due(f + " is final", Modifier.isFinal(f.getModifiers()), true);
            }
        }
        due("constants", seen, new TreeSet<>(Arrays.asList(CONSTANTS)));
    }

    private static void words() throws IOException {
        String text = Files.readString(Path.of("src/main/java/TimeResources.java"));
        for (String word : WORDS) {
            boolean isWord = Character.isLetter(word.charAt(0));
            String pattern = isWord ? "\\b" + word + "\\b" : Pattern.quote(word);
            due("the text has " + word, Pattern.compile(pattern).matcher(text).find(), false);
        }
        for (String line : text.split("\n")) {
            if (line.startsWith("import")) {
                due("an import", line, "import java.util.Arrays;");
            }
        }
        methodLengths(text);
    }

    /** A method's last line is the first brace behind its head that stands as far in as the head. */
    private static void methodLengths(String text) {
        Pattern head = Pattern.compile("^( {4}| {8})[a-zA-Z][^;=]*\\(.*\\{$");
        int from = 0;
        String end = "";
        String[] lines = text.split("\n");
        for (int k = 0; k < lines.length; k++) {
            Matcher m = head.matcher(lines[k]);
            if (end.isEmpty() && m.matches()) {
                from = k;
                end = m.group(1) + "}";
            } else if (lines[k].equals(end)) {
                due("a method of at most sixty lines from " + lines[from].strip(), k - from < 60, true);
                end = "";
            }
        }
    }
}
