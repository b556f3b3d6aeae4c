import java.io.IOException;
import java.lang.reflect.Method;
import java.lang.reflect.Modifier;
import java.nio.file.Files;
import java.nio.file.Path;
import java.util.List;

/** README.md: its example answers what it says there, and its tables hold every call of the face. */
public final class ReadmeTest {
    private ReadmeTest() {
    }

    public static void main(String[] args) throws IOException {
        example();
        exampleIsThatOfReadme();
        everyCallIsInATable();
        Check.end();
    }

    private static void example() {
        MarkChat chat = new MarkChat();
        int author = chat.user(MarkChat.MEMBER);
        int lead = chat.user(MarkChat.LEAD);
        chat.budget(0, 5000);
        int message = chat.post(author, 0, MarkChat.NONE);
        chat.mark(lead, message, MarkChat.YES);
        int spend = chat.spend(author, message, 500);
        int left = chat.left(0);             // 4500
        same("left as it stands", 4500, left);
        int state = chat.spendOf(spend, 0);  // MarkChat.STANDS
        same("the spend as it stands", MarkChat.STANDS, state);
        chat.edit(author, message);
        left = chat.left(0);                 // 5000
        same("left as it went back", 5000, left);
        state = chat.spendOf(spend, 0);      // MarkChat.WENT_BACK
        same("the spend as it went back", MarkChat.WENT_BACK, state);
    }

    private static void same(String what, int want, int got) {
        Check.report(what, String.valueOf(want), String.valueOf(got));
    }

    /** So that an example that is changed there alone does not go by unseen. */
    private static void exampleIsThatOfReadme() throws IOException {
        List<String> page = Files.readAllLines(Path.of("README.md"));
        List<String> own = Files.readAllLines(Path.of("src/test/java/ReadmeTest.java"));
        int first = page.indexOf("```java") + 1;
        int ownLine = 0;
        for (int i = first; i < page.size() && !page.get(i).equals("```"); i++) {
            while (ownLine < own.size() && !own.get(ownLine).strip().equals(page.get(i))) {
                ownLine++;
            }
            boolean isFound = ownLine < own.size();
            Check.due("is told here: " + page.get(i), true, () -> isFound);
        }
        Check.due("there is an example", true, () -> first > 0);
    }

    private static void everyCallIsInATable() throws IOException {
        String page = Files.readString(Path.of("README.md"));
        for (Method method : MarkChat.class.getDeclaredMethods()) {
            if (Modifier.isPublic(method.getModifiers())) {
                Check.due("has a row: " + method.getName(), true, () -> page.contains("| `" + method.getName() + "(")
                        && row(page, method.getName()).split(",").length == method.getParameterCount());
            }
        }
    }

    /** What stands between the brackets of a call's row. */
    private static String row(String page, String name) {
        int start = page.indexOf("| `" + name + "(");
        return page.substring(start, page.indexOf(')', start));
    }
}
