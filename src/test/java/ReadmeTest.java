import java.io.IOException;
import java.lang.reflect.Field;
import java.lang.reflect.Method;
import java.lang.reflect.Modifier;
import java.nio.file.Files;
import java.nio.file.Path;
import java.util.ArrayList;
import java.util.List;

/** README.md is there, tells every call and how to run the tests, and its examples answer as it says. */
public final class ReadmeTest {
    private static List<String> lines = List.of();
    /** The lines of the examples that say an answer, in their order, and the next one to be met. */
    private static final List<String> examples = new ArrayList<>();
    private static int next = 0;

    public static void main(String[] args) {
        Check.sentence("README.md is there", ReadmeTest::read);
        Check.sentence("README.md says how to use the class", ReadmeTest::namesTheFace);
        Check.sentence("README.md, the examples", ReadmeTest::examplesAnswer);
        Check.sentence("README.md says how to run its tests", ReadmeTest::namesTheTests);
        Check.end();
    }

    private static void read() {
        try {
            lines = Files.readAllLines(Path.of("README.md"));
        } catch (IOException e) {
            Check.dueText("reading it", "its lines", e.toString());
        }
        Check.due("lines in it, whether any", 1, lines.isEmpty() ? 0 : 1);
        boolean inExample = false;
        for (String line : lines) {
            if (line.startsWith("```")) {
                inExample = line.equals("```java");
            } else if (inExample && line.contains("//")) {
                examples.add(line);
            }
        }
    }

    private static void dueNamed(String words) {
        boolean found = lines.stream().anyMatch(line -> line.contains(words));
        Check.due("lines with " + words + ", whether any", 1, found ? 1 : 0);
    }

    private static void namesTheFace() {
        for (Method method : EventOrder.class.getDeclaredMethods()) {
            if (Modifier.isPublic(method.getModifiers())) {
                dueNamed("| `" + method.getName() + "(");
            }
        }
        for (Field field : EventOrder.class.getDeclaredFields()) {
            if (Modifier.isPublic(field.getModifiers())) {
                dueNamed("`" + field.getName() + "`");
            }
        }
    }

    private static void namesTheTests() {
        dueNamed("    .ci/run");
        String[] tests = {"FaceTest", "PromisesTest", "TermsTest", "ExceptionsTest", "ReferenceTest", "ReadmeTest"};
        for (String test : tests) {
            dueNamed("- `" + test + "`");
        }
    }

    /** The next line of the examples must be this call, with this answer behind it. */
    private static void dueExample(String call, long answer) {
        String line = next < examples.size() ? examples.get(next) : "";
        next++;
        int at = line.indexOf("//");
        String code = at < 0 ? "" : line.substring(0, at).trim();
        String said = at < 0 ? "" : line.substring(at + 2).trim().split("[: ]")[0];
        Check.dueText("example " + next, call, code);
        Check.dueText(call, said, Long.toString(answer));
    }

    private static void examplesAnswer() {
        EventOrder x = new EventOrder();
        int a = x.source();
        dueExample("int a = x.source();", a);
        int b = x.source();
        dueExample("int b = x.source();", b);
        int sent = x.event(a, 5, 0, 1, 100);
        dueExample("int sent = x.event(a, 5, 0, 1, 100);", sent);
        int got = x.event(b, 5, 3, 2, 40);
        dueExample("int got = x.event(b, 5, 3, 2, 40);", got);
        dueExample("x.need(sent, got);", x.need(sent, got));
        dueExample("x.settle();", x.settle());
        dueExample("x.offset(a);", x.offset(a));
        dueExample("x.offset(b);", x.offset(b));
        dueExample("x.bound(a, b);", x.bound(a, b));
        dueExample("x.corrected(got);", x.corrected(got));
        dueExample("x.ordered(5, 0);", x.ordered(5, 0));
        dueExample("x.ask(0, 5);", x.ask(0, 5));
        bagExample(x, a);
        ringExample(x, sent, got);
        Check.due("examples met", examples.size(), next);
    }

    private static void bagExample(EventOrder x, int a) {
        dueExample("x.event(a, 5, 1, 100, 200);", x.event(a, 5, 1, 100, 200));
        dueExample("x.event(a, 100, 4, 7, 210);", x.event(a, 100, 4, 7, 210));
        dueExample("x.event(a, 5, 2, 100, 220);", x.event(a, 5, 2, 100, 220));
        dueExample("x.event(a, 100, 4, 8, 230);", x.event(a, 100, 4, 8, 230));
        dueExample("x.settle();", x.settle());
        dueExample("x.implied(100, 5);", x.implied(100, 5));
    }

    private static void ringExample(EventOrder x, int sent, int got) {
        dueExample("x.need(got, sent);", x.need(got, sent));
        dueExample("x.settle();", x.settle());
        dueExample("x.ring(0);", x.ring(0));
        dueExample("x.ring(1);", x.ring(1));
        dueExample("x.correct(got, 500);", x.correct(got, 500));
    }
}
