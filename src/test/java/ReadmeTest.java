import java.io.IOException;
import java.lang.reflect.Method;
import java.lang.reflect.Modifier;
import java.nio.file.Files;
import java.nio.file.Path;
import java.util.List;

/** README.md tells how to use the class: its example is run here, and it names every call. */
public final class ReadmeTest {
    private static final Path README = Path.of("README.md");
    private static final Path THIS_TEST = Path.of("src/test/java/ReadmeTest.java");

    private ReadmeTest() {
    }

    public static void main(String[] args) throws IOException {
        List<String> readme = Files.readAllLines(README);
        example();
        exampleIsTheOneRunHere(readme);
        everyCallHasARow(readme);
        tellsHowToRunTheTests(readme);
        Check.end();
    }

    /** The lines of README.md's example, with what they answer in between. */
    private static void example() {
        RollCall call = new RollCall();
        int a = call.tag(1, 10L, 0);
        int b = call.tag(3, 11L, 7);
        Check.due("a", a, 0);
        Check.due("b", b, 1);

        int first = call.pass();
        int second = call.pass();
        boolean here = call.verify(call.name(b));
        Check.due("first", first, a);
        Check.due("second", second, b);
        Check.due("the row of passes is over", call.fork(0), RollCall.NONE);
        Check.due("here", here, true);

        int alone = 0;
        call.descend();
        while (call.step() != RollCall.NONE) {
            int tag = call.alone();
            alone += tag == RollCall.NONE ? 0 : 1;
        }
        Check.due("alone in the descent", alone, 2);

        call.begin();
        while (call.split() != RollCall.NONE) {
            int tag = call.alone();
            Check.due("alone in the split", tag, b);
        }

        call.frames();
        int caught = call.frame(4);
        int next = call.heard(3);
        Check.due("caught", caught, 1);
        Check.due("next", next, 1);

        call.image(0);
        call.act(a, 0);
        int listening = call.group(-1L, call.name(b));
        Check.due("listening", listening, 1);
        call.again(0);
        Check.due("all is as it was", call.count(1), 2);

        int slots = call.cost(4);
        // Two passes and a verify, 113 questions down to bit 55, one slot of the split, four of the frame.
        Check.due("slots", slots, 3 * 193 + 113 + 1 + 4);
    }

    private static void exampleIsTheOneRunHere(List<String> readme) throws IOException {
        List<String> here = Files.readAllLines(THIS_TEST);
        int line = here.indexOf("    private static void example() {");
        int looked = 0;
        for (int i = readme.indexOf("```java") + 1; !readme.get(i).startsWith("```"); i++) {
            String wanted = readme.get(i).replaceAll("//.*", "").strip();
            while (line < here.size() && !here.get(line).strip().equals(wanted)) {
                line++;
            }
            Check.due("the example's line is run: " + wanted, line < here.size(), true);
            line++;
            looked++;
        }
        Check.due("the example has lines", looked > 0, true);
    }

    private static void everyCallHasARow(List<String> readme) {
        for (Method method : RollCall.class.getDeclaredMethods()) {
            if (Modifier.isPublic(method.getModifiers())) {
                String row = "| `" + method.getName() + "(";
                long rows = readme.stream().filter(line -> line.startsWith(row)).count();
                Check.due("rows of " + method.getName(), rows, 1);
            }
        }
    }

    private static void tellsHowToRunTheTests(List<String> readme) {
        Check.due("the script is named", readme.contains(".ci/run"), true);
        Check.due("and can be run", Files.isExecutable(Path.of(".ci/run")), true);
    }
}
