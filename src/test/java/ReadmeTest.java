import java.io.File;
import java.io.IOException;
import java.lang.reflect.Method;
import java.lang.reflect.Modifier;
import java.nio.charset.StandardCharsets;
import java.nio.file.Files;
import java.nio.file.Path;

/** README.md: the example's lines and answers, and that each call and each test has a row. */
public final class ReadmeTest {
    private static String page = "";

    public static void main(String[] args) throws IOException {
        page = Files.readString(Path.of("README.md"), StandardCharsets.UTF_8).replaceAll(" +", " ");
        theExampleAnswersAsItSays();
        eachCallHasARow();
        eachTestHasARow();
        Check.end();
    }

    private static void theExampleAnswersAsItSays() {
        DiamondBook book = new DiamondBook();
        line("int parcel = book.parcel(2);", 0, () -> book.parcel(2));
        line("int stone = book.stone(parcel, 1200, 3, 4, 64);", 0,
            () -> book.stone(0, 1200, 3, 4, 64));
        line("book.sort(0, stone);", 7, () -> book.sort(0, 0));
        line("book.value(stone);", 62400, () -> book.value(0));
        line("book.boxes(2);", 1, () -> book.boxes(2));
        line("book.offered(0);", 0, () -> book.offered(0));
        line("book.take(0, false);", 40, () -> book.take(0, false));
        stands("book.tender(stone, 50000); //");
        book.tender(0, 50000);
        line("book.bid(3, 70000);", -1, () -> book.bid(3, 70000));
        line("book.bid(4, 60000);", -1, () -> book.bid(4, 60000));
        line("book.close();", 3, () -> book.close());
        stands("and pays " + book.stoneIs(0, 6) + "\n");
        line("book.plan(stone);", 61, () -> book.plan(0));
        line("book.cut(stone);", 2, () -> book.cut(0));
        line("book.look(1, 0);", 4, () -> book.look(1, 0));
        line("book.look(2, 0);", 4, () -> book.look(2, 0));
        line("book.polished(0, 6);", 11520, () -> book.polished(0, 6));
        line("book.paper(0, 2);", 840, () -> book.paper(0, 2));
        line("book.polished(0, 8);", 2, () -> book.polished(0, 8));
        line("book.all(3);", 540, () -> book.all(3));
    }

    private static void line(String code, long due, Check.Call call) {
        stands("\n" + code + " // " + due + ":");
        Check.answers(code, due, call);
    }

    private static void stands(String text) {
        Check.same("the page holding '" + text.trim() + "'", page.contains(text), true);
    }

    private static void eachCallHasARow() {
        for (Method method : DiamondBook.class.getDeclaredMethods()) {
            if (Modifier.isPublic(method.getModifiers())) {
                stands("\n| `" + method.getName() + "(");
            }
        }
    }

    private static void eachTestHasARow() {
        String[] files = new File("src/test/java").list();
        Check.same("tests are found", files != null && files.length > 0, true);
        for (String file : files == null ? new String[0] : files) {
            if (file.endsWith("Test.java")) {
                stands("\n| " + file.substring(0, file.length() - ".java".length()) + " |");
            }
        }
    }
}
