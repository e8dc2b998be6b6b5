/** Promises 2 to 8: parcels, stones, drifts, sorts, prices, values. */
public final class StonesTest {
    private static final int FAR = Integer.MAX_VALUE;
    private static final int DEEP = Integer.MIN_VALUE;

    public static void main(String[] args) {
        parcelsAreNumberedUpToTwelve();
        stonesAreNumberedUpToForty();
        aStoneIsAskedInOrder();
        driftsAreToldAndAnswered();
        qualitiesAreWithinTheirBounds();
        countsTheRightQuality();
        aSortHasItsTimes();
        pricesAreToldAndAnswered();
        valuesFollowWeightAndPrice();
        stonesTellOfThemselves();
        Check.end();
    }

    private static DiamondBook withParcel(int pit) {
        DiamondBook book = new DiamondBook();
        book.parcel(pit);
        return book;
    }

    private static void parcelsAreNumberedUpToTwelve() {
        DiamondBook book = new DiamondBook();
        for (int pit : new int[] {-1, 4, FAR, DEEP}) {
            Check.isThrown(Check.INDEX, "parcel(" + pit + ")", () -> book.parcel(pit));
        }
        for (int number = 0; number < 12; number++) {
            Check.same("parcel", book.parcel(number % 4), number);
        }
        Check.isThrown(Check.STATE, "a 13th parcel", () -> book.parcel(0));
        Check.isThrown(Check.INDEX, "a 13th parcel of no pit", () -> book.parcel(4));
        Check.isThrown(Check.INDEX, "a stone of the 13th", () -> book.stone(12, 12, 0, 0, 0));
        Check.answers("a stone of the 12th", 0, () -> book.stone(11, 12, 0, 0, 0));
    }

    private static void stonesAreNumberedUpToForty() {
        DiamondBook book = withParcel(1);
        for (int number = 0; number < 40; number++) {
            Check.same("stone", book.stone(0, 12 + number, 0, 0, 0), number);
        }
        Check.isThrown(Check.STATE, "a 41st stone", () -> book.stone(0, 12, 0, 0, 0));
        Check.answers("what came of 40", 40 * 12 + 780, () -> book.all(0));
        Check.isThrown(Check.ARGUMENT, "a 41st stone too light", () -> book.stone(0, 11, 0, 0, 0));
        Check.isThrown(Check.INDEX, "a 41st stone of no parcel", () -> book.stone(1, 12, 0, 0, 0));
        Check.isThrown(Check.INDEX, "value(40)", () -> book.value(40));
        Check.answers("value(39)", -1, () -> book.value(39));
    }

    private static void aStoneIsAskedInOrder() {
        DiamondBook book = withParcel(1);
        int[][] wrong = {{11, 0, 0, 0}, {10000, 0, 0, 0}, {12, -1, 0, 0}, {12, 10, 0, 0},
            {12, 0, -1, 0}, {12, 0, 10, 0}, {12, 0, 0, -1}, {12, 0, 0, 4096}, {DEEP, 0, 0, 0},
            {12, FAR, 0, 0}, {12, 0, DEEP, 0}, {12, 0, 0, FAR}};
        for (int[] row : wrong) {
            Check.isThrownAndNothingChanges(book, Check.ARGUMENT, "a wrong stone",
                () -> book.stone(0, row[0], row[1], row[2], row[3]));
            Check.isThrown(Check.INDEX, "a wrong stone of no parcel",
                () -> book.stone(1, row[0], row[1], row[2], row[3]));
        }
        Check.isThrown(Check.INDEX, "stone(-1)", () -> book.stone(-1, 12, 0, 0, 0));
        Check.answers("the least of all", 0, () -> book.stone(0, 12, 0, 0, 0));
        Check.answers("the most of all", 1, () -> book.stone(0, 9999, 9, 9, 4095));
    }

    private static void driftsAreToldAndAnswered() {
        DiamondBook book = new DiamondBook();
        for (int sorter = 0; sorter < 4; sorter++) {
            Check.same("drift at first", book.drift(sorter, -2), 0);
        }
        Check.answers("drift(3, 2)", -2, () -> book.drift(3, 2));
        for (int wrong : new int[] {-3, 3, FAR, DEEP}) {
            Check.isThrown(Check.ARGUMENT, "drift(3, " + wrong + ")", () -> book.drift(3, wrong));
            Check.isThrown(Check.INDEX, "drift(4, " + wrong + ")", () -> book.drift(4, wrong));
        }
        Check.isThrown(Check.INDEX, "drift(-1, 0)", () -> book.drift(-1, 0));
        Check.answers("drift(3, 0) after wrong ones", 2, () -> book.drift(3, 0));
        Check.answers("drift(2, 0)", -2, () -> book.drift(2, 0));
    }

    private static void qualitiesAreWithinTheirBounds() {
        DiamondBook book = withParcel(0);
        book.stone(0, 50, 0, 1, 0);
        book.stone(0, 50, 9, 8, 0);
        book.stone(0, 50, 4, 3, 0);
        book.drift(0, -2);
        book.drift(1, 2);
        Check.answers("the best", 0, () -> book.sort(0, 0));
        Check.answers("less than the best", 3, () -> book.sort(1, 0));
        Check.answers("better than the worst", 15, () -> book.sort(0, 1));
        Check.answers("the worst", 18, () -> book.sort(1, 1));
        Check.answers("by drift", 5, () -> book.sort(0, 2));
        book.drift(0, 2);
        book.drift(1, -1);
        Check.answers("by the drift of now", 6, () -> book.sort(1, 2));
        Check.answers("what was told stays", 6, () -> book.stoneIs(2, 1));
    }

    /** Sorts a new stone of quality 8 with each drift, then tells quality and doubt. */
    private static String sorted(int... drifts) {
        DiamondBook book = withParcel(0);
        book.stone(0, 50, 4, 4, 0);
        for (int sorter = 0; sorter < drifts.length; sorter++) {
            book.drift(sorter, drifts[sorter]);
            book.sort(sorter, 0);
        }
        return book.stoneIs(0, 1) + " " + book.stoneIs(0, 2);
    }

    private static void countsTheRightQuality() {
        Check.same("none", sorted(), "-1 0");
        Check.same("one", sorted(1), "9 0");
        Check.same("two alike", sorted(1, 1), "9 0");
        Check.same("two 1 apart", sorted(1, 0), "9 0");
        Check.same("two 1 apart, rising", sorted(0, 1), "9 0");
        Check.same("two 2 apart", sorted(0, 2), "10 1");
        Check.same("two 2 apart, falling", sorted(1, -1), "9 1");
        Check.same("two 4 apart", sorted(2, -2), "10 1");
        int[][] orders = {{0, 1, 2}, {0, 2, 1}, {1, 0, 2}, {1, 2, 0}, {2, 0, 1}, {2, 1, 0}};
        int[][] threes = {{-2, 0, 2}, {-2, -2, 2}, {-2, 2, 2}, {1, 1, 1}, {-1, 1, 2}};
        int[] middles = {8, 6, 10, 9, 9};
        for (int i = 0; i < threes.length; i++) {
            for (int[] order : orders) {
                Check.same("three", sorted(threes[i][order[0]], threes[i][order[1]],
                    threes[i][order[2]]), middles[i] + " 0");
            }
        }
    }

    private static void aSortHasItsTimes() {
        DiamondBook book = withParcel(0);
        for (int i = 0; i < 5; i++) {
            book.stone(0, 50, 4, 4, 0);
        }
        Check.answers("sort(2, 0)", 8, () -> book.sort(2, 0));
        Check.isThrownAndNothingChanges(book, Check.STATE, "by the same", () -> book.sort(2, 0));
        book.sort(0, 0);
        Check.isThrown(Check.STATE, "by the first again", () -> book.sort(2, 0));
        book.sort(3, 0);
        Check.isThrownAndNothingChanges(book, Check.STATE, "a fourth one", () -> book.sort(1, 0));
        Check.isThrown(Check.INDEX, "sort(4, 0)", () -> book.sort(4, 0));
        Check.isThrown(Check.INDEX, "sort(-1, 0)", () -> book.sort(-1, 0));
        Check.isThrown(Check.INDEX, "sort(0, 5)", () -> book.sort(0, 5));
        Check.isThrown(Check.INDEX, "sort(0, -1)", () -> book.sort(0, -1));
        Check.isThrown(Check.INDEX, "sort(4, 5)", () -> book.sort(FAR, FAR));

        book.sort(0, 1);
        book.boxes(1);
        Check.isThrown(Check.STATE, "in a box", () -> book.sort(1, 1));
        book.take(0, true);
        Check.isThrown(Check.STATE, "sold", () -> book.sort(1, 1));
        book.cut(2);
        Check.isThrown(Check.STATE, "cut", () -> book.sort(1, 2));
        book.tender(3, 0);
        Check.answers("tendered, but here", 8, () -> book.sort(1, 3));
        book.sort(0, 4);
        book.boxes(1);
        book.take(book.offered(0) == 0 ? 0 : 1, false);
        Check.answers("refused", 8, () -> book.sort(1, 4));
    }

    private static void pricesAreToldAndAnswered() {
        DiamondBook book = new DiamondBook();
        for (int size = 0; size < 4; size++) {
            for (int quality = 0; quality < 19; quality++) {
                Check.same("price at first", book.price(size, quality, 1 + size * 19 + quality),
                    100 * (size + 1) * (20 - quality));
            }
        }
        Check.answers("price(3, 18)", 76, () -> book.price(3, 18, 99999));
        Check.answers("price(3, 18) then", 99999, () -> book.price(3, 18, 1));
        Check.answers("price(1, 0)", 20, () -> book.price(1, 0, 5));
        for (int wrong : new int[] {0, -1, 100000, FAR, DEEP}) {
            Check.isThrown(Check.ARGUMENT, "price of " + wrong, () -> book.price(0, 0, wrong));
            Check.isThrown(Check.INDEX, "no size", () -> book.price(4, 0, wrong));
            Check.isThrown(Check.INDEX, "no quality", () -> book.price(0, 19, wrong));
        }
        Check.isThrown(Check.INDEX, "size -1", () -> book.price(-1, 18, 7));
        Check.isThrown(Check.INDEX, "quality -1", () -> book.price(1, -1, 7));
        Check.isThrown(Check.INDEX, "quality 19", () -> book.price(1, 19, 7));
        Check.answers("after wrong ones", 1, () -> book.price(0, 0, 9));
    }

    private static int valueAtFirst(int weight, int colour) {
        DiamondBook book = withParcel(0);
        book.stone(0, weight, colour, 0, 0);
        book.sort(0, 0);
        return book.value(0);
    }

    private static void valuesFollowWeightAndPrice() {
        Check.same("99", valueAtFirst(99, 9), 1089);
        Check.same("100", valueAtFirst(100, 9), 2200);
        Check.same("299", valueAtFirst(299, 9), 6578);
        Check.same("300", valueAtFirst(300, 9), 9900);
        Check.same("999", valueAtFirst(999, 9), 32967);
        Check.same("1000", valueAtFirst(1000, 9), 44000);

        DiamondBook book = withParcel(0);
        book.stone(0, 9999, 0, 0, 0);
        book.stone(0, 12, 0, 0, 0);
        Check.answers("not sorted", -1, () -> book.value(0));
        book.sort(0, 0);
        book.price(3, 0, 99999);
        Check.answers("the dearest", 9998900, () -> book.value(0));
        book.sort(0, 1);
        book.price(0, 0, 1);
        Check.answers("rounded down to none", 0, () -> book.value(1));
        book.price(0, 0, 99);
        Check.answers("rounded down", 11, () -> book.value(1));
        Check.isThrown(Check.INDEX, "value(2)", () -> book.value(2));
        Check.isThrown(Check.INDEX, "value(-1)", () -> book.value(-1));
        book.cut(1);
        Check.answers("a cut one's", 11, () -> book.value(1));
        book.drift(1, 2);
        book.sort(1, 0);
        Check.answers("a doubtful one's, by the greater", 9999 * 7200 / 100, () -> book.value(0));
    }

    private static void stonesTellOfThemselves() {
        DiamondBook book = withParcel(2);
        book.parcel(0);
        book.stone(1, 50, 4, 4, 0);
        book.stone(0, 50, 4, 4, 0);
        int[] due = {0, -1, 0, -1, -1, 1, 0};
        for (int what = 0; what < due.length; what++) {
            Check.same("stoneIs(0, " + what + ")", book.stoneIs(0, what), due[what]);
        }
        Check.answers("the parcel of the other", 0, () -> book.stoneIs(1, 5));
        for (int wrong : new int[] {-1, 7, FAR, DEEP}) {
            Check.isThrown(Check.ARGUMENT, "what " + wrong, () -> book.stoneIs(0, wrong));
            Check.isThrown(Check.INDEX, "no stone, what " + wrong, () -> book.stoneIs(2, wrong));
            Check.isThrown(Check.INDEX, "stone -1", () -> book.stoneIs(-1, 0));
        }
        book.sort(0, 0);
        book.boxes(1);
        Check.answers("in a box", DiamondBook.BOX, () -> book.stoneIs(0, 0));
        Check.answers("its box", 0, () -> book.stoneIs(0, 4));
        Check.answers("the house has it", -1, () -> book.stoneIs(0, 3));
        book.take(0, true);
        Check.answers("sold", DiamondBook.SOLD, () -> book.stoneIs(0, 0));
        Check.answers("the box is gone", -1, () -> book.stoneIs(0, 4));
        Check.answers("the buyer has it", 0, () -> book.stoneIs(0, 3));
        Check.answers("not paid by a tender", 0, () -> book.stoneIs(0, 6));
        book.cut(0);
        Check.answers("cut", DiamondBook.CUT, () -> book.stoneIs(0, 0));
        Check.answers("the buyer had it", 0, () -> book.stoneIs(0, 3));
        book.tender(1, 40);
        book.bid(4, 90);
        book.close();
        Check.answers("paid", 40, () -> book.stoneIs(1, 6));
        Check.answers("the winner has it", 4, () -> book.stoneIs(1, 3));
        book.cut(1);
        Check.answers("paid, and cut", 40, () -> book.stoneIs(1, 6));
        Check.answers("the winner had it", 4, () -> book.stoneIs(1, 3));
    }
}
