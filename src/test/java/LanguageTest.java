import java.io.IOException;
import java.lang.reflect.Constructor;
import java.lang.reflect.Field;
import java.lang.reflect.Member;
import java.lang.reflect.Method;
import java.lang.reflect.Modifier;
import java.nio.file.Files;
import java.nio.file.Path;
import java.util.Arrays;
import java.util.List;
import java.util.Set;
import java.util.TreeSet;
import java.util.regex.Matcher;
import java.util.regex.Pattern;

/** The face of the class, and the rules of LANGUAGE.md that can be read off the class and its file. */
public final class LanguageTest {
    private static final Path FILE = Path.of("src/main/java/CampWeek.java");
    private static final Path DOC = Path.of("../shared/DOC.md");
    private static final int MOST_LINES_OF_METHOD = 60;
    private static final int MOST_PARAMETERS = 7;
    private static final int MOST_CLASSES = 12;
    private static final int MOST_FIELDS = 20;
    private static final List<String> LIBRARY = List.of("Arrays.fill", "System.arraycopy", "Math.abs", "Math.max");

    private static final Check check = new Check("LanguageTest");

    private LanguageTest() {
    }

    public static void main(String[] args) throws IOException {
        String code = Files.readString(FILE).replaceAll("(?s)/\\*.*?\\*/", "").replaceAll("//[^\n]*", "");
        face(Files.readString(DOC));
        classes();
        words(code);
        library(code);
        methodLengths(code);
        check.end();
    }

    private static void due(String what, long got, long want) {
        check.due(what, got, want);
    }

    /** The public members of the class are those that the document's Java block declares, and no others. */
    private static void face(String doc) {
        String block = doc.substring(doc.indexOf("```java"), doc.indexOf("```", doc.indexOf("```java") + 7));
        Set<String> want = new TreeSet<>();
        Matcher declared = Pattern.compile("public (int|long) (\\w+)\\(([^)]*)\\);").matcher(block);
        while (declared.find()) {
            String types = declared.group(3).replaceAll("(\\w+) \\w+", "$1").replace(" ", "");
            want.add(declared.group(1) + " " + declared.group(2) + "(" + types + ")");
        }
        Set<String> got = new TreeSet<>();
        for (Method m : CampWeek.class.getDeclaredMethods()) {
            if (Modifier.isPublic(m.getModifiers())) {
                got.add(m.getReturnType() + " " + m.getName() + "("
                        + String.join(",", Arrays.stream(m.getParameterTypes()).map(Class::getName).toList()) + ")");
            }
        }
        due("methods declared in the document", want.size(), 38);
        due("public methods are " + got + ", due are " + want, got.equals(want) ? 1 : 0, 1);
        due("class is public and final", CampWeek.class.getModifiers(), Modifier.PUBLIC | Modifier.FINAL);
        due("constructors", CampWeek.class.getConstructors().length, 1);
        due("parameters of the constructor", CampWeek.class.getConstructors()[0].getParameterCount(), 0);
        Set<String> constants = new TreeSet<>();
        for (Field f : CampWeek.class.getFields()) {
            constants.add(f.getName());
            due(f.getName() + " is static and final", f.getModifiers(),
                    Modifier.PUBLIC | Modifier.STATIC | Modifier.FINAL);
        }
        due("constants " + constants, constants.equals(Set.of("NONE", "BAD", "NOT", "FULL")) ? 1 : 0, 1);
    }

    private static void classes() {
        Set<String> face = new TreeSet<>();
        for (Method m : CampWeek.class.getDeclaredMethods()) {
            privateOrPublic(m);
            if (Modifier.isPublic(m.getModifiers())) {
                face.add(m.getName());
            }
        }
        for (Field f : CampWeek.class.getDeclaredFields()) {
            privateOrPublic(f);
        }
        Class<?>[] inside = CampWeek.class.getDeclaredClasses();
        due("classes at most", Math.max(inside.length + 1, MOST_CLASSES), MOST_CLASSES);
        fieldsAndMethods(CampWeek.class, Set.of());
        for (Class<?> c : inside) {
            due(c + " is static", Modifier.isStatic(c.getModifiers()) ? 1 : 0, 1);
            due(c + " is not public", c.getModifiers() & (Modifier.PUBLIC | Modifier.PROTECTED), 0);
            due(c + " has no classes inside", c.getDeclaredClasses().length, 0);
            fieldsAndMethods(c, face);
        }
    }

    private static void privateOrPublic(Member m) {
        due(m + " is private or public", m.getModifiers() & (Modifier.PUBLIC | Modifier.PRIVATE),
                Modifier.isPublic(m.getModifiers()) ? Modifier.PUBLIC : Modifier.PRIVATE);
    }

    private static void fieldsAndMethods(Class<?> c, Set<String> face) {
        int fields = 0;
        for (Field f : c.getDeclaredFields()) {
            if (!Modifier.isStatic(f.getModifiers())) {
                fields++;
            } else {
                due(f + " is final", Modifier.isFinal(f.getModifiers()) ? 1 : 0, 1);
                due(f + " is a number", f.getType() == int.class ? 1 : 0, 1);
            }
        }
        due("fields of " + c + " at most", Math.max(fields, MOST_FIELDS), MOST_FIELDS);
        for (Method m : c.getDeclaredMethods()) {
            due(m + " parameters", Math.max(m.getParameterCount(), MOST_PARAMETERS), MOST_PARAMETERS);
            due(m + " bears no name of the face", face.contains(m.getName()) ? 1 : 0, 0);
        }
        for (Constructor<?> k : c.getDeclaredConstructors()) {
            due(k + " parameters", k.getParameterCount(), 0);
        }
    }

    private static void words(String code) {
        String[] forbidden = {"throw", "throws", "try", "catch", "finally", "synchronized", "assert", "package",
            "volatile", "native", "transient", "var", "yield", "instanceof", "Object", "toString", "hashCode"};
        for (String word : forbidden) {
            due("word " + word, Pattern.compile("\\b" + word + "\\b").matcher(code).find() ? 1 : 0, 0);
        }
        for (String sign : new String[] {"->", "::", "@", "static {", "\"", "Exact"}) {
            due("sign " + sign, code.contains(sign) ? 1 : 0, 0);
        }
        due("signs above 127", code.chars().filter(c -> c > 127).count(), 0);
    }

    /** No call of a library but the few that are named here; rows are made nowhere but in fields. */
    private static void library(String code) {
        due("imports", code.split("\nimport |^import ", -1).length - 1, 1);
        due("import of Arrays", code.contains("import java.util.Arrays;") ? 1 : 0, 1);
        Matcher calls = Pattern.compile("\\b(Arrays|System|Math|Integer|Long|String|StringBuilder|List)\\b[.\\w]*")
                .matcher(code.replace("import java.util.Arrays;", ""));
        while (calls.find()) {
            due("library call " + calls.group(), LIBRARY.contains(calls.group()) ? 1 : 0, 1);
        }
        Matcher made = Pattern.compile("(?m)^.*\\bnew\\b.*$").matcher(code);
        while (made.find()) {
            String line = made.group();
            boolean inField = line.matches("        (private )?final [\\w\\[\\]]+ \\w+ = new .*");
            boolean inConstructor = line.matches("        \\w+ = new \\w+\\(\\);");
            due("made once an object:" + line, inField || inConstructor ? 1 : 0, 1);
        }
    }

    /** A method begins at four or eight blanks with a brace at the line's end, and ends at the brace below it. */
    private static void methodLengths(String code) {
        String[] lines = code.split("\n");
        for (int i = 0; i < lines.length; i++) {
            Matcher begin = Pattern.compile("( {4}| {8})\\w.*\\(.*").matcher(lines[i]);
            boolean isMethod = begin.matches() && !lines[i].contains(";");
            for (int end = i + 1; isMethod && end < lines.length; end++) {
                if (lines[end].equals(begin.group(1) + "}")) {
                    due("lines of " + lines[i].trim(), Math.max(end - i + 1, MOST_LINES_OF_METHOD),
                            MOST_LINES_OF_METHOD);
                    break;
                }
            }
        }
    }
}
