import java.io.IOException;
import java.lang.reflect.Method;
import java.nio.charset.StandardCharsets;
import java.nio.file.Files;
import java.nio.file.Path;
import java.util.regex.Matcher;
import java.util.regex.Pattern;

/** Rules of ../shared/LANGUAGE.md that can be seen in the program's text, or in its classes. */
public final class LanguageTest {
    private static final Path PROGRAM = Path.of("src/main/java/DiamondBook.java");

    private static final String[] RULED_OUT = {
        "\\btry\\b", "\\bcatch\\b", "\\bfinally\\b", "\\bassert\\b", "\\bsynchronized\\b",
        "\\bpackage\\b", "\\bprotected\\b", "\\bnative\\b", "\\brecord\\b", "->", "::",
        "\"\\s*\\+|\\+\\s*\"", "\\bSystem\\.(?!arraycopy)", "\\bThread\\b", "\\bObject\\b",
        "\\bequals\\b", "\\bhashCode\\b", "\\btoString\\b", "\\w+Exact\\b", "\\bstatic\\s*\\{",
        "\\bMath\\.(?!(max|min|abs|floorDiv|floorMod)\\b)", "\\bArrays\\.(?!(fill|copyOf)\\b)"};

    public static void main(String[] args) throws IOException {
        String text = Files.readString(PROGRAM, StandardCharsets.ISO_8859_1);
        String code = text.replaceAll("(?s)/\\*.*?\\*/", "").replaceAll("//[^\n]*", "");
        holdsNothingRuledOut(code);
        importsArraysAlone(code);
        hasPlainSigns(text);
        throwsWithWrittenTexts(code);
        staysSmall();
        Check.end();
    }

    private static void holdsNothingRuledOut(String code) {
        for (String rule : RULED_OUT) {
            Matcher found = Pattern.compile(rule).matcher(code);
            Check.same("the program holding " + rule, found.find() ? found.group() : "", "");
        }
    }

    private static void importsArraysAlone(String code) {
        Matcher found = Pattern.compile("(?m)^import (.*);$").matcher(code);
        while (found.find()) {
            Check.same("import", found.group(1), "java.util.Arrays");
        }
    }

    private static void hasPlainSigns(String text) {
        Check.same("signs beyond 127", text.chars().filter(sign -> sign > 127).count(), 0L);
    }

    private static void throwsWithWrittenTexts(String code) {
        Matcher found = Pattern.compile("throw\\b[^;]*;").matcher(code);
        String due = "throw new (IllegalState|IllegalArgument|IndexOutOfBounds)Exception"
            + "\\(\"[^\"]*\"\\);";
        while (found.find()) {
            Check.same(found.group(), found.group().matches(due), true);
        }
    }

    private static void staysSmall() {
        Class<?>[] inside = DiamondBook.class.getDeclaredClasses();
        Check.same("few classes", inside.length < 12, true);
        isSmall(DiamondBook.class);
        for (Class<?> one : inside) {
            isSmall(one);
        }
    }

    private static void isSmall(Class<?> one) {
        long fields = java.util.Arrays.stream(one.getDeclaredFields())
            .filter(field -> !java.lang.reflect.Modifier.isStatic(field.getModifiers())).count();
        Check.same(one.getName() + " has few fields", fields <= 20, true);
        for (Method method : one.getDeclaredMethods()) {
            Check.same(method.getName() + " has few parameters", method.getParameterCount() <= 7,
                true);
        }
    }
}
