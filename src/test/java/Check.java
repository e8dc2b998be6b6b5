/** What the tests of the project share: each compares, tells what is wrong, and counts it. */
final class Check {
    static final String INDEX = "IndexOutOfBoundsException";
    static final String ARGUMENT = "IllegalArgumentException";
    static final String STATE = "IllegalStateException";

    private static int wrong = 0;
    private static int compared = 0;

    interface Call {
        long answer();
    }

    interface VoidCall {
        void run();
    }

    private Check() {
    }

    static void same(String what, Object got, Object due) {
        compared++;
        if (!got.equals(due)) {
            wrong++;
            System.out.println(what + " answered " + got + ", due is " + due);
        }
    }

    static void answers(String what, long due, Call call) {
        same(what, outcome(call), Long.toString(due));
    }

    static void isThrown(String exception, String what, Call call) {
        same(what, outcome(call), exception);
    }

    static void isThrownBy(String exception, String what, VoidCall call) {
        same(what, outcomeOf(call), exception);
    }

    /** What can be asked for must be as before; what shows in later calls, RefusalsTest looks at. */
    static void isThrownAndNothingChanges(DiamondBook book, String exception, String what,
            Call call) {
        String before = answersOf(book);
        isThrown(exception, what, call);
        same("the answers after " + what, answersOf(book), before);
    }

    static String outcome(Call call) {
        try {
            return Long.toString(call.answer());
        } catch (RuntimeException thrown) {
            return thrown.getClass().getSimpleName();
        }
    }

    static String outcomeOf(VoidCall call) {
        return outcome(() -> {
            call.run();
            return 0;
        });
    }

    /** All that can be asked without a change; for few stones, as an object has 512 calls. */
    static String answersOf(DiamondBook book) {
        StringBuilder all = new StringBuilder();
        for (int stone = 0; isKnownStone(book, stone); stone++) {
            all.append(" s").append(stone).append(':').append(book.value(stone));
            for (int what = 0; what <= 6; what++) {
                all.append(',').append(book.stoneIs(stone, what));
            }
        }
        for (int gem = 0; isKnownGem(book, gem); gem++) {
            all.append(" p").append(gem);
            for (int what = 0; what <= 8; what++) {
                all.append(',').append(book.polished(gem, what));
            }
        }
        for (int number = 0; number < 5; number++) {
            int box = number;
            all.append(" b").append(outcome(() -> book.boxValue(box)));
            all.append(" o").append(book.offered(number));
        }
        for (int what = 0; what <= 5; what++) {
            all.append(" a").append(book.all(what));
        }
        return all.toString();
    }

    private static boolean isKnownStone(DiamondBook book, int stone) {
        return !outcome(() -> book.value(stone)).equals(INDEX);
    }

    private static boolean isKnownGem(DiamondBook book, int gem) {
        return !outcome(() -> book.polished(gem, 0)).equals(INDEX);
    }

    static void end() {
        System.out.println(compared + " compared, " + wrong + " wrong");
        if (wrong != 0 || compared == 0) {
            System.exit(1);
        }
    }
}
