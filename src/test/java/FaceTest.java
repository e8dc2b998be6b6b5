import java.lang.reflect.Constructor;
import java.lang.reflect.Field;
import java.lang.reflect.Method;
import java.lang.reflect.Modifier;
import java.util.Arrays;
import java.util.Set;
import java.util.TreeSet;

/** The public face, and promise 1: a new object. */
public final class FaceTest {
    private static final String INDEX = " IndexOutOfBoundsException";
    private static final String ARGUMENT = " IllegalArgumentException";
    private static final String STATE = " IllegalStateException";

    public static void main(String[] args) {
        theMethodsAreThoseOfTheDocument();
        theConstantsAreThoseOfTheDocument();
        nothingElseCanBeSeen();
        aNewObjectIsEmpty();
        Check.end();
    }

    private static void theMethodsAreThoseOfTheDocument() {
        Set<String> due = new TreeSet<>(Arrays.asList(
            "int parcel(int)" + INDEX + STATE,
            "int stone(int,int,int,int,int)" + INDEX + ARGUMENT + STATE,
            "int drift(int,int)" + INDEX + ARGUMENT,
            "int sort(int,int)" + INDEX + STATE,
            "int price(int,int,int)" + INDEX + ARGUMENT,
            "int value(int)" + INDEX,
            "int stoneIs(int,int)" + INDEX + ARGUMENT,
            "int boxes(int)" + ARGUMENT,
            "int boxValue(int)" + INDEX,
            "int offered(int)" + INDEX,
            "int take(int,boolean)" + INDEX + STATE,
            "void tender(int,int)" + INDEX + ARGUMENT + STATE,
            "int bid(int,int)" + INDEX + ARGUMENT + STATE,
            "int close()" + STATE,
            "int plan(int)" + INDEX,
            "int planAnew(int)" + INDEX,
            "int cut(int)" + INDEX + STATE,
            "int recut(int,int)" + INDEX + ARGUMENT,
            "int polished(int,int)" + INDEX + ARGUMENT,
            "int scale(int,int)" + INDEX + ARGUMENT,
            "int look(int,int)" + INDEX + STATE,
            "int paper(int,int)" + INDEX + STATE,
            "int all(int)" + ARGUMENT));
        Set<String> got = new TreeSet<>();
        Set<String> publicNames = new TreeSet<>();
        for (Method method : DiamondBook.class.getDeclaredMethods()) {
            if (!Modifier.isPrivate(method.getModifiers())) {
                got.add(signatureOf(method));
                publicNames.add(method.getName());
            }
        }
        Check.same("the methods", got, due);
        for (Method method : DiamondBook.class.getDeclaredMethods()) {
            if (Modifier.isPrivate(method.getModifiers())) {
                Check.same(method.getName() + " is public too",
                    publicNames.contains(method.getName()), false);
            }
        }
    }

    private static String signatureOf(Method method) {
        StringBuilder text = new StringBuilder();
        text.append(method.getReturnType().getSimpleName()).append(' ');
        text.append(method.getName()).append('(');
        for (int i = 0; i < method.getParameterCount(); i++) {
            text.append(i == 0 ? "" : ",").append(method.getParameterTypes()[i].getSimpleName());
        }
        text.append(')');
        for (Class<?> thrown : method.getExceptionTypes()) {
            text.append(' ').append(thrown.getSimpleName());
        }
        return text.toString();
    }

    private static void theConstantsAreThoseOfTheDocument() {
        Check.same("NONE", DiamondBook.NONE, -1);
        Check.same("HERE", DiamondBook.HERE, 0);
        Check.same("BOX", DiamondBook.BOX, 1);
        Check.same("SOLD", DiamondBook.SOLD, 2);
        Check.same("CUT", DiamondBook.CUT, 3);
    }

    private static void nothingElseCanBeSeen() {
        Check.same("final", Modifier.isFinal(DiamondBook.class.getModifiers()), true);
        Constructor<?>[] constructors = DiamondBook.class.getDeclaredConstructors();
        Check.same("constructors", constructors.length, 1);
        Check.same("public", Modifier.isPublic(constructors[0].getModifiers()), true);
        Set<String> fields = new TreeSet<>();
        for (Field field : DiamondBook.class.getDeclaredFields()) {
            if (!Modifier.isPrivate(field.getModifiers())) {
                fields.add(Modifier.toString(field.getModifiers()) + " " + field.getName());
            }
        }
        Check.same("the fields", fields, new TreeSet<>(Arrays.asList("public static final NONE",
            "public static final HERE", "public static final BOX", "public static final SOLD",
            "public static final CUT")));
    }

    private static void aNewObjectIsEmpty() {
        DiamondBook book = new DiamondBook();
        Check.isThrown(Check.INDEX, "value(0)", () -> book.value(0));
        Check.isThrown(Check.INDEX, "stone in no parcel", () -> book.stone(0, 12, 0, 0, 0));
        Check.isThrown(Check.INDEX, "polished(0, 0)", () -> book.polished(0, 0));
        Check.isThrown(Check.INDEX, "boxValue(0)", () -> book.boxValue(0));
        Check.isThrown(Check.STATE, "close()", () -> book.close());
        for (int buyer = 0; buyer < 5; buyer++) {
            Check.same("offered(" + buyer + ")", book.offered(buyer), DiamondBook.NONE);
        }
        for (int what = 0; what <= 5; what++) {
            Check.same("all(" + what + ")", book.all(what), 0);
        }
        new DiamondBook().parcel(0);
        Check.answers("the first parcel of another object", 0, () -> book.parcel(3));
    }
}
