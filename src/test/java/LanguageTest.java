import java.io.IOException;
import java.lang.reflect.Constructor;
import java.lang.reflect.Field;
import java.lang.reflect.Method;
import java.lang.reflect.Modifier;
import java.nio.file.Files;
import java.nio.file.Path;
import java.util.Arrays;
import java.util.List;
import java.util.TreeSet;

/** The public face, and of LANGUAGE.md what can be seen without a parser. */
public final class LanguageTest {
    private static final Path SOURCE = Path.of("src/main/java/BondedStore.java");
    private static final List<String> FACE = List.of(
        "int addOwner()", "int deposit(int, int)", "int setGuarantee(int, int)", "int setRate(int, int)",
        "int setTerms(int, int)", "int setRules(int, int, int)", "int enter(int, int, int, int)",
        "int release(int, int)", "int sample(int, int)", "int export(int, int)", "int prove(int)",
        "int destroy(int, int)", "int give(int, int)", "int pass(int)", "int type(char)", "int clearText()",
        "int runOrders()", "int undo()", "int keep(int)", "int restore(int)", "long owner(int, int)",
        "int lot(int, int)", "int exported(int, int)", "int documentLength(int)", "int documentAt(int, int)",
        "int nextDeadline()", "int calledIn(int)", "int greatestValue(int, int)", "long account(int)",
        "int count(int)", "int rate(int)");
    private static final List<String> WORDS = List.of(
        "throw", "throws", "try", "catch", "finally", "synchronized", "assert", "import", "package", "instanceof",
        "native", "volatile", "transient", "hashCode", "toString", "System.out", "Object", "float", "double",
        "record", "enum", "interface", "protected", "var");

    private LanguageTest() {
    }

    public static void main(String[] args) throws IOException {
        checkFace();
        checkNestedClasses();
        String code = withoutComments(Files.readString(SOURCE));
        checkWords(code);
        checkMethodLengths(code);
        checkWhatIsMade(code);
        Due.end();
    }

    private static String signature(Method method) {
        String types = Arrays.toString(method.getParameterTypes()).replace("[", "(").replace("]", ")");
        return method.getReturnType() + " " + method.getName() + types;
    }

    private static void checkFace() {
        Due.isTrue("public and final", BondedStore.class.getModifiers() == (Modifier.PUBLIC | Modifier.FINAL));
        TreeSet<String> seen = new TreeSet<>();
        TreeSet<String> names = new TreeSet<>();
        for (Method method : BondedStore.class.getDeclaredMethods()) {
            if (!Modifier.isPrivate(method.getModifiers())) {
                Due.isTrue("public, not static: " + method, method.getModifiers() == Modifier.PUBLIC);
                seen.add(signature(method));
                names.add(method.getName());
            }
        }
        Due.isTrue("the methods of the document: " + seen, seen.equals(new TreeSet<>(FACE)));
        for (Method method : BondedStore.class.getDeclaredMethods()) {
            boolean hidden = Modifier.isPrivate(method.getModifiers());
            Due.isTrue("a name of its own: " + method, !hidden || !names.contains(method.getName()));
        }
        Constructor<?>[] constructors = BondedStore.class.getDeclaredConstructors();
        Due.is("constructors", constructors.length, 1);
        Due.isTrue("the constructor", constructors[0].getModifiers() == Modifier.PUBLIC
                && constructors[0].getParameterCount() == 0);
        checkFields();
    }

    private static void checkFields() {
        TreeSet<String> constants = new TreeSet<>();
        int own = 0;
        for (Field field : BondedStore.class.getDeclaredFields()) {
            int kind = field.getModifiers();
            if (Modifier.isPrivate(kind)) {
                Due.isTrue("no static state: " + field, !Modifier.isStatic(kind) || Modifier.isFinal(kind));
                own += Modifier.isStatic(kind) ? 0 : 1;
            } else {
                Due.isTrue("a public constant: " + field, kind == (Modifier.PUBLIC | Modifier.STATIC | Modifier.FINAL));
                constants.add(field.getType() + " " + field.getName());
            }
        }
        Due.isTrue("the constants: " + constants, constants.equals(new TreeSet<>(
                List.of("int UNKNOWN", "int BAD_VALUE", "int REFUSED", "int FULL", "int NONE"))));
        Due.isTrue("few fields", own <= 20);
        Due.is("UNKNOWN", BondedStore.UNKNOWN, Due.UNKNOWN);
        Due.is("BAD_VALUE", BondedStore.BAD_VALUE, Due.BAD_VALUE);
        Due.is("REFUSED", BondedStore.REFUSED, Due.REFUSED);
        Due.is("FULL", BondedStore.FULL, Due.FULL);
        Due.is("NONE", BondedStore.NONE, Due.NONE);
    }

    private static void checkNestedClasses() {
        TreeSet<String> names = new TreeSet<>();
        for (Method method : BondedStore.class.getDeclaredMethods()) {
            if (Modifier.isPublic(method.getModifiers())) {
                names.add(method.getName());
            }
        }
        Class<?>[] nested = BondedStore.class.getDeclaredClasses();
        Due.isTrue("at most twelve classes", nested.length < 12);
        for (Class<?> inside : nested) {
            Due.isTrue("private and static: " + inside, Modifier.isStatic(inside.getModifiers())
                    && Modifier.isPrivate(inside.getModifiers()));
            Due.isTrue("few fields: " + inside, Arrays.stream(inside.getDeclaredFields())
                    .filter(field -> !Modifier.isStatic(field.getModifiers())).count() <= 20);
            for (Method method : inside.getDeclaredMethods()) {
                Due.isTrue("a name of its own: " + method, !names.contains(method.getName()));
            }
        }
    }

    private static String withoutComments(String source) {
        return source.replaceAll("(?s)/\\*.*?\\*/", "").replaceAll("//[^\n]*", "");
    }

    private static void checkWords(String code) {
        Due.isTrue("signs 1 to 127 alone", code.chars().allMatch(sign -> sign < 128));
        for (String word : WORDS) {
            boolean used = code.matches("(?s).*\\b" + word.replace(".", "\\.") + "\\b.*");
            Due.isTrue("without '" + word + "'", !used);
        }
        Due.isTrue("no lambda", !code.contains("->") && !code.contains("::"));
        Due.isTrue("no text joined by +", !code.matches("(?s).*(\"\\s*\\+|\\+\\s*\").*"));
    }

    private static void checkMethodLengths(String code) {
        String start = null;
        int begun = 0;
        String[] lines = code.split("\n");
        for (int i = 0; i < lines.length; i++) {
            if (lines[i].matches(" {4,8}\\S.*\\) \\{") && !lines[i].matches("\\s*(if|for|while|switch)\\b.*")) {
                start = lines[i];
                begun = i;
            } else if (start != null && lines[i].matches(" {4,8}\\}")
                    && lines[i].indexOf('}') == start.length() - start.stripLeading().length()) {
                Due.isTrue("short: " + start, i - begun < 60);
                start = null;
            }
        }
    }

    /** All rows are made in constructors, so that many calls need no more room than one. */
    private static void checkWhatIsMade(String code) {
        boolean constructing = false;
        for (String line : code.split("\n")) {
            if (line.matches(" {4,8}\\S.*\\) \\{") && !line.matches("\\s*(if|for|while|switch)\\b.*")) {
                constructing = line.matches("\\s*(public )?[A-Z]\\w*\\(.*");
            }
            Due.isTrue("made in a constructor: " + line, constructing || !line.matches(".*\\bnew\\b.*"));
        }
    }
}
