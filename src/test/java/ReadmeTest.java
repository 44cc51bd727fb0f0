import java.io.IOException;
import java.lang.reflect.Field;
import java.lang.reflect.Method;
import java.nio.file.Files;
import java.nio.file.Path;
import java.util.LinkedHashMap;
import java.util.List;
import java.util.Map;
import java.util.regex.Matcher;
import java.util.regex.Pattern;

/** The example of README.md: its lines stand below, and must answer what is said beside them there. */
public final class ReadmeTest {
    private static final Pattern LINE = Pattern.compile("(\\w+ (\\w+) = .*;)\\s*// (-?\\d+): .*");
    private static final String ORDERS = "enter 0 0 7 1000;release 0 2;export 0 3;prove 0;days 30";

    private ReadmeTest() {
    }

    public static void main(String[] args) throws IOException {
        String readme = Files.readString(Path.of("README.md"));
        String here = Files.readString(Path.of("src/test/java/ReadmeTest.java"));
        Map<String, Integer> answers = answersOfExample();
        int found = 0;
        for (String line : exampleIn(readme)) {
            Matcher parts = LINE.matcher(line);
            if (parts.matches()) {
                found++;
                Due.isTrue("stands here too: " + line, here.contains("        " + parts.group(1) + "\n"));
                Due.is(line, answers.getOrDefault(parts.group(2), -1), Integer.parseInt(parts.group(3)));
            }
        }
        Due.is("lines with an answer", found, answers.size());
        checkOrders(readme);
        checkNames(readme);
        Due.end();
    }

    private static List<String> exampleIn(String readme) {
        int from = readme.indexOf("```java\n");
        int to = readme.indexOf("\n```\n", from);
        Due.isTrue("README.md has an example", from >= 0 && to > from);
        return readme.substring(from, to).lines().toList();
    }

    private static Map<String, Integer> answersOfExample() {
        BondedStore store = new BondedStore();
        int owner = store.addOwner();
        int before = store.setGuarantee(owner, 1000);
        int lot = store.enter(owner, 0, 7, 1000);
        int due = store.lot(lot, 6);
        int refused = store.release(lot, 2);
        int reason = store.count(11);
        int debt = store.deposit(owner, 500);
        int paid = store.release(lot, 2);
        int export = store.export(lot, 3);
        int proved = store.prove(export);
        int length = store.documentLength(lot);
        Due.is("its document", Due.document(store, lot).equals("L0/0:2+0") ? 1 : 0, 1);
        int called = store.pass(100);
        int seized = store.pass(1);
        int left = store.undo();
        Due.is("the day after undo()", store.count(0), 100);
        Map<String, Integer> answers = new LinkedHashMap<>();
        answers.put("owner", owner);
        answers.put("before", before);
        answers.put("lot", lot);
        answers.put("due", due);
        answers.put("refused", refused);
        answers.put("reason", reason);
        answers.put("debt", debt);
        answers.put("paid", paid);
        answers.put("export", export);
        answers.put("proved", proved);
        answers.put("length", length);
        answers.put("called", called);
        answers.put("seized", seized);
        answers.put("left", left);
        return answers;
    }

    private static void checkOrders(String readme) {
        Due.isTrue("README.md has the orders", readme.contains("    " + ORDERS + "\n"));
        BondedStore store = Due.storeOf(1, 1000);
        store.deposit(0, 500);
        Due.is("the orders of README.md", Due.run(store, ORDERS), 5);
    }

    /** README.md leaves out no call and no constant. */
    private static void checkNames(String readme) {
        for (Method method : BondedStore.class.getMethods()) {
            if (method.getDeclaringClass() == BondedStore.class) {
                Due.isTrue("README.md names " + method.getName(), readme.contains("`" + method.getName() + "`"));
            }
        }
        for (Field field : BondedStore.class.getFields()) {
            Due.isTrue("README.md names " + field.getName(), readme.contains("`" + field.getName() + "`"));
        }
    }
}
