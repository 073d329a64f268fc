import java.io.File;
import java.lang.reflect.Method;
import java.lang.reflect.Modifier;
import java.nio.charset.StandardCharsets;
import java.nio.file.Files;
import java.nio.file.Path;
import java.util.ArrayList;
import java.util.List;

/** README.md: its examples answer as it says, and its tables name every call and every test. */
public final class ReadmeTest {
    public static void main(String[] args) throws Exception {
        Check c = new Check("ReadmeTest");
        String page = Files.readString(Path.of("README.md"), StandardCharsets.UTF_8);
        firstExample(c, page);
        townAndQuestions(c, page);
        everyCall(c, page);
        everyTest(c, page);
        c.close();
    }

    private static void firstExample(Check c, String page) {
        c.due("the example's text", page.contains("x.feed(0x64617973, 0x20353b20, 0x20202020, 0x20202020, 0x20202020);"), true);
        ForgottenFeast x = new ForgottenFeast();
        x.feed(0x64617973, 0x20353b20, 0x20202020, 0x20202020, 0x20202020);
        c.due("end(7)", x.end(7), true);
        says(c, page, "x.town();       // 1:", x.town());
        says(c, page, "x.later(1, 4);  // 1:", x.later(1, 4));
        says(c, page, "x.go(1);        // 1:", x.go(1));
        says(c, page, "x.has(5);       // 1:", x.has(5));
        c.due("the tape is empty again", x.end(1), false);
    }

    /** A line of the page ends in the answer that it says is due. */
    private static void says(Check c, String page, String line, int answer) {
        c.due("the page has <" + line + ">", page.contains(line), true);
        int from = line.indexOf("// ") + 3;
        c.due(line, answer, Integer.parseInt(line.substring(from, line.length() - 1)));
    }

    private static void townAndQuestions(Check c, String page) {
        List<String> blocks = textBlocks(page);
        c.due("blocks of text", blocks.size(), 2);
        if (blocks.size() != 2) {
            return;
        }
        ForgottenFeast x = new ForgottenFeast();
        c.due("town()", Check.town(x, blocks.get(0)), 10);
        c.due("fault(0)", x.fault(0), 0);
        String[] questions = blocks.get(1).strip().split("\n");
        long[] due = {1, 1, 1};
        c.due("questions", questions.length, due.length);
        for (int i = 0; i < questions.length && i < due.length; i++) {
            c.due("ask of <" + questions[i] + ">", Check.ask(x, questions[i], 1), due[i]);
            c.due("fault(0) of <" + questions[i] + ">", x.fault(0), 0);
        }
    }

    private static List<String> textBlocks(String page) {
        List<String> blocks = new ArrayList<>();
        int from = page.indexOf("```text\n");
        while (from >= 0) {
            int to = page.indexOf("```", from + 8);
            blocks.add(page.substring(from + 8, to));
            from = page.indexOf("```text\n", to);
        }
        return blocks;
    }

    private static void everyCall(Check c, String page) {
        for (Method m : ForgottenFeast.class.getDeclaredMethods()) {
            if (Modifier.isPublic(m.getModifiers())) {
                boolean named = page.lines().anyMatch(l -> l.startsWith("| `") && l.contains("`" + m.getName() + "`"));
                c.due("the table has " + m.getName(), named, true);
            }
        }
    }

    private static void everyTest(Check c, String page) {
        String[] files = new File("src/test/java").list((d, f) -> f.endsWith("Test.java"));
        c.due("tests", files != null && files.length > 0, true);
        if (files == null) {
            return;
        }
        for (String f : files) {
            c.due("the table has " + f, page.contains("| " + f.replace(".java", "") + " |"), true);
        }
        long rows = page.lines().filter(l -> l.matches("\\| \\w+Test \\|.*")).count();
        c.due("rows of tests", rows, files.length);
    }
}
