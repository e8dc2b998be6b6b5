import java.util.Map;
import java.util.TreeMap;

/** All promises together: long runs of calls, each answered by the class as by the model. */
public final class RandomRunsTest {
    private static final int RUNS = 3000;
    private static final int CALLS = 512;
    private static final int METHODS = 23;

    /** How often each method answered, and how often it threw what: each must have come up. */
    private static final Map<String, Integer> OUTCOMES = new TreeMap<>();

    private DiamondBook book = new DiamondBook();
    private Model model = new Model();
    private long seed;
    private int number;
    private int stones;
    private int gems;
    private int wrongOfTen;

    private RandomRunsTest(int number) {
        this.number = number;
        this.seed = number * 7919L + 17;
        this.wrongOfTen = number % 3;
    }

    public static void main(String[] args) {
        for (int run = 0; run < RUNS; run++) {
            new RandomRunsTest(run).play();
        }
        everyOutcomeCameUp();
        Check.end();
    }

    private int below(int bound) {
        seed = seed * 6364136223846793005L + 1442695040888963407L;
        return (int) ((seed >>> 33) % bound);
    }

    /** Mostly from least to most, now and then just or far outside. */
    private int about(int least, int most) {
        if (below(40) < wrongOfTen) {
            int[] outside = {least - 1, most + 1, Integer.MIN_VALUE, Integer.MAX_VALUE, -1};
            return outside[below(outside.length)];
        }
        if (below(6) == 0) {
            return below(2) == 0 ? least : most;
        }
        return least + below(most - least + 1);
    }

    private int aStone() {
        return about(0, Math.max(0, stones - 1));
    }

    private int aGem() {
        return about(0, Math.max(0, gems - 1));
    }

    private void play() {
        for (int call = 0; call < CALLS; call++) {
            int method = call < 30 && number % 2 == 0 ? below(4) : below(METHODS + 12);
            next(method);
        }
    }

    private void next(int method) {
        switch (method) {
            case 0:
                parcel();
                break;
            case 1:
            case 23:
                stone();
                break;
            case 2:
                drift();
                break;
            case 3:
            case 24:
            case 25:
            case 26:
                sort();
                break;
            case 4:
                price();
                break;
            case 5:
                oneNumber("value", aStone(), book::value, model::value);
                break;
            case 6:
            case 27:
                twoNumbers("stoneIs", aStone(), about(0, 6), book::stoneIs, model::stoneIs);
                break;
            case 7:
                oneNumber("boxes", about(1, 5), book::boxes, model::boxes);
                break;
            case 8:
                oneNumber("boxValue", about(0, 4), book::boxValue, model::boxValue);
                break;
            case 9:
                oneNumber("offered", about(0, 4), book::offered, model::offered);
                break;
            case 10:
                take();
                break;
            default:
                nextAfterBoxes(method);
        }
    }

    private void nextAfterBoxes(int method) {
        switch (method) {
            case 11:
                tender();
                break;
            case 12:
            case 28:
            case 29:
                twoNumbers("bid", about(0, 4), below(2) == 0 ? about(1, 4) : about(1, 999999),
                    book::bid, model::bid);
                break;
            case 13:
                compare("close()", "close", () -> book.close(), () -> model.close());
                break;
            case 14:
                oneNumber("plan", aStone(), book::plan, model::plan);
                break;
            case 15:
                oneNumber("planAnew", aStone(), book::planAnew, model::planAnew);
                break;
            case 16:
                cut();
                break;
            case 17:
                twoNumbers("recut", aGem(), about(1, 300), book::recut, model::recut);
                break;
            case 18:
            case 30:
            case 31:
                twoNumbers("polished", aGem(), about(0, 8), book::polished, model::polished);
                break;
            case 19:
                twoNumbers("scale", about(0, 2), about(-1, 1), book::scale, model::scale);
                break;
            case 20:
            case 32:
            case 33:
                twoNumbers("look", about(0, 2), aGem(), book::look, model::look);
                break;
            case 21:
            case 34:
                twoNumbers("paper", aGem(), about(0, 3), book::paper, model::paper);
                break;
            default:
                oneNumber("all", about(0, 5), book::all, model::all);
        }
    }

    private interface OneNumber {
        int of(int first);
    }

    private interface TwoNumbers {
        int of(int first, int second);
    }

    private void oneNumber(String name, int first, OneNumber got, OneNumber due) {
        compare(name + "(" + first + ")", name, () -> got.of(first), () -> due.of(first));
    }

    private void twoNumbers(String name, int first, int second, TwoNumbers got, TwoNumbers due) {
        compare(name + "(" + first + ", " + second + ")", name, () -> got.of(first, second),
            () -> due.of(first, second));
    }

    private boolean compare(String call, String name, Check.Call got, Check.Call due) {
        String outcome = Check.outcome(due);
        Check.same("run " + number + ": " + call, Check.outcome(got), outcome);
        boolean isAnswer = !outcome.endsWith("Exception");
        OUTCOMES.merge(name + (isAnswer ? "" : " " + outcome), 1, Integer::sum);
        return isAnswer;
    }

    private void parcel() {
        oneNumber("parcel", about(0, 3), book::parcel, model::parcel);
    }

    private void stone() {
        int parcel = about(0, 3);
        int[] heaviest = {60, 400, 1300, 9999};
        int weight = about(12, heaviest[below(heaviest.length)]);
        int colour = about(0, 9);
        int clarity = about(0, 9);
        int flaws = about(0, 4095) & about(0, 4095);
        boolean isAnswer = compare("stone(" + parcel + ", " + weight + ", " + colour + ", "
            + clarity + ", " + flaws + ")", "stone",
            () -> book.stone(parcel, weight, colour, clarity, flaws),
            () -> model.stone(parcel, weight, colour, clarity, flaws));
        stones += isAnswer ? 1 : 0;
    }

    private void drift() {
        twoNumbers("drift", about(0, 3), about(-2, 2), book::drift, model::drift);
    }

    private void sort() {
        twoNumbers("sort", about(0, 3), aStone(), book::sort, model::sort);
    }

    private void price() {
        int size = about(0, 3);
        int quality = about(0, 18);
        int price = about(1, below(3) == 0 ? 99999 : 5);
        compare("price(" + size + ", " + quality + ", " + price + ")", "price",
            () -> book.price(size, quality, price), () -> model.price(size, quality, price));
    }

    private void take() {
        int buyer = about(0, 4);
        boolean isTaken = below(3) == 0;
        compare("take(" + buyer + ", " + isTaken + ")", "take",
            () -> book.take(buyer, isTaken), () -> model.take(buyer, isTaken));
    }

    private void tender() {
        int stone = aStone();
        int reserve = below(2) == 0 ? about(0, 3) : about(0, 999999);
        String got = Check.outcomeOf(() -> book.tender(stone, reserve));
        String due = Check.outcomeOf(() -> model.tender(stone, reserve));
        Check.same("run " + number + ": tender(" + stone + ", " + reserve + ")", got, due);
        OUTCOMES.merge("tender" + (due.equals("0") ? "" : " " + due), 1, Integer::sum);
    }

    private void cut() {
        int stone = aStone();
        String before = Check.outcome(() -> model.all(2));
        oneNumber("cut", stone, book::cut, model::cut);
        if (!before.equals(Check.outcome(() -> model.all(2)))) {
            while (!Check.outcome(() -> model.polished(gems, 0)).equals(Check.INDEX)) {
                gems++;
            }
        }
    }

    private static void everyOutcomeCameUp() {
        String[] due = {
            "parcel XS", "stone XAS", "drift XA", "sort XS", "price XA", "value X", "stoneIs XA",
            "boxes A", "boxValue X", "offered X", "take XS", "tender XAS", "bid XAS", "close S",
            "plan X", "planAnew X", "cut XS", "recut XA", "polished XA", "scale XA", "look XS",
            "paper XS", "all A"};
        for (String row : due) {
            String name = row.substring(0, row.indexOf(' '));
            String thrown = row.substring(row.indexOf(' ') + 1);
            cameUp(name, true);
            cameUp(name + " " + Check.INDEX, thrown.contains("X"));
            cameUp(name + " " + Check.ARGUMENT, thrown.contains("A"));
            cameUp(name + " " + Check.STATE, thrown.contains("S"));
        }
    }

    private static void cameUp(String outcome, boolean isDue) {
        Check.same("coming up: " + outcome, OUTCOMES.containsKey(outcome), isDue);
    }
}
