/** Promises 9 to 12: boxes, their values, offers, and what buyers make of them. */
public final class BoxesTest {
    public static void main(String[] args) {
        boxesAreMadeAlike();
        onlySortedStonesWithoutDoubtAreBoxed();
        boxesOfBeforeAreOpened();
        theNumberOfBoxesHasBounds();
        boxValuesGoByThePricesOfNow();
        offersGoByConductAndValue();
        aTakenBoxIsSold();
        aRefusedBoxIsHere();
        conductHasBounds();
        Check.end();
    }

    /** A book with sorted stones of these weights, all below 100, of which each 1 is worth 20. */
    private static DiamondBook withStones(int... weights) {
        DiamondBook book = new DiamondBook();
        book.parcel(0);
        for (int stone = 0; stone < weights.length; stone++) {
            book.stone(0, weights[stone], 0, 0, 0);
            book.sort(0, stone);
        }
        return book;
    }

    private static String boxesOf(DiamondBook book, int stones) {
        StringBuilder text = new StringBuilder();
        for (int stone = 0; stone < stones; stone++) {
            text.append(book.stoneIs(stone, 4)).append(' ');
        }
        return text.toString().trim();
    }

    private static String offers(DiamondBook book) {
        StringBuilder text = new StringBuilder();
        for (int buyer = 0; buyer < 5; buyer++) {
            text.append(book.offered(buyer)).append(' ');
        }
        return text.toString().trim();
    }

    private static void boxesAreMadeAlike() {
        DiamondBook book = withStones(30, 50, 50, 20, 90);
        Check.answers("boxes(2)", 5, () -> book.boxes(2));
        // By falling value: 4 (90) to 0, 1 (50) to 1, 2 (50) to 1, 0 (30) to 0, 3 (20) to 1.
        Check.same("the boxes", boxesOf(book, 5), "0 1 1 1 0");
        Check.answers("boxValue(0)", 2400, () -> book.boxValue(0));
        Check.answers("boxValue(1)", 2400, () -> book.boxValue(1));

        DiamondBook alike = withStones(40, 40, 40, 40);
        Check.answers("boxes(3)", 4, () -> alike.boxes(3));
        Check.same("the lowest first", boxesOf(alike, 4), "0 1 2 0");

        DiamondBook free = withStones(12, 12, 12);
        free.price(0, 0, 1);
        free.boxes(2);
        Check.same("stones without value", boxesOf(free, 3), "0 0 0");
        Check.answers("an empty box", 0, () -> free.boxValue(1));
        Check.answers("is offered", 1, () -> free.offered(1));
    }

    private static void onlySortedStonesWithoutDoubtAreBoxed() {
        DiamondBook book = withStones(30, 40, 50, 60, 70);
        book.stone(0, 99, 0, 0, 0);
        book.drift(1, 2);
        book.sort(1, 1);
        book.cut(2);
        book.tender(3, 0);
        book.bid(2, 1);
        book.close();
        book.sort(2, 4);
        Check.answers("boxes(1)", 2, () -> book.boxes(1));
        Check.same("the boxes", boxesOf(book, 6), "0 -1 -1 -1 0 -1");
        Check.answers("the doubtful one is here", DiamondBook.HERE, () -> book.stoneIs(1, 0));
        book.sort(2, 1);
        Check.answers("without doubt", 3, () -> book.boxes(1));
    }

    private static void boxesOfBeforeAreOpened() {
        DiamondBook book = withStones(30, 40, 50);
        book.boxes(3);
        book.take(0, true);
        Check.same("the boxes", boxesOf(book, 3), "2 1 -1");
        Check.answers("what was not taken", 2, () -> book.boxes(1));
        Check.same("the boxes then", boxesOf(book, 3), "0 0 -1");
        Check.same("the offers then", offers(book), "0 -1 -1 -1 -1");
        Check.isThrown(Check.INDEX, "a box of before", () -> book.boxValue(1));
        book.price(0, 0, 4000);
        book.drift(1, 1);
        Check.answers("boxes(2)", 2, () -> book.boxes(2));
        Check.answers("by the prices of then", 1600, () -> book.boxValue(0));
    }

    private static void theNumberOfBoxesHasBounds() {
        DiamondBook book = withStones(30, 40);
        book.boxes(2);
        for (int wrong : new int[] {0, 6, -1, Integer.MAX_VALUE, Integer.MIN_VALUE}) {
            Check.isThrownAndNothingChanges(book, Check.ARGUMENT, "boxes(" + wrong + ")",
                () -> book.boxes(wrong));
        }
        DiamondBook empty = new DiamondBook();
        Check.answers("boxes(5) of nothing", 0, () -> empty.boxes(5));
        Check.same("all are offered", offers(empty), "0 1 2 3 4");
    }

    private static void boxValuesGoByThePricesOfNow() {
        DiamondBook book = withStones(30, 40);
        Check.isThrown(Check.INDEX, "before there are any", () -> book.boxValue(0));
        book.boxes(2);
        Check.answers("boxValue(0)", 800, () -> book.boxValue(0));
        Check.answers("boxValue(1)", 600, () -> book.boxValue(1));
        book.price(0, 0, 1000);
        Check.answers("boxValue(0) then", 400, () -> book.boxValue(0));
        Check.isThrown(Check.INDEX, "boxValue(2)", () -> book.boxValue(2));
        Check.isThrown(Check.INDEX, "boxValue(-1)", () -> book.boxValue(-1));
        Check.isThrown(Check.INDEX, "boxValue(5)", () -> book.boxValue(5));
        book.take(0, true);
        book.take(1, false);
        Check.answers("a taken box", -1, () -> book.boxValue(0));
        Check.answers("a refused box", -1, () -> book.boxValue(1));
        Check.isThrown(Check.INDEX, "boxValue(2) then", () -> book.boxValue(2));
    }

    private static void offersGoByConductAndValue() {
        DiamondBook book = withStones(30, 40, 50);
        Check.same("at first", offers(book), "-1 -1 -1 -1 -1");
        // 50 to box 0, 40 to 1, 30 to 1: box 1 has the greater value.
        book.boxes(2);
        Check.same("the greatest value first", offers(book), "1 0 -1 -1 -1");
        book.take(0, false);
        Check.same("gone", offers(book), "-1 0 -1 -1 -1");
        book.boxes(5);
        Check.same("the least conduct last", offers(book), "4 0 1 2 3");
        book.take(2, true);
        book.boxes(1);
        Check.same("the best conduct first", offers(book), "-1 -1 0 -1 -1");
        Check.isThrown(Check.INDEX, "offered(5)", () -> book.offered(5));
        Check.isThrown(Check.INDEX, "offered(-1)", () -> book.offered(-1));
    }

    private static void aTakenBoxIsSold() {
        DiamondBook book = withStones(30, 40, 50);
        book.boxes(2);
        Check.isThrownAndNothingChanges(book, Check.STATE, "take(2, true)",
            () -> book.take(2, true));
        Check.isThrown(Check.INDEX, "take(5, true)", () -> book.take(5, true));
        Check.isThrown(Check.INDEX, "take(-1, false)", () -> book.take(-1, false));
        Check.answers("take(0, true)", 55, () -> book.take(0, true));
        for (int stone : new int[] {0, 1}) {
            Check.same("sold", book.stoneIs(stone, 0), DiamondBook.SOLD);
            Check.same("to", book.stoneIs(stone, 3), 0);
            Check.same("box", book.stoneIs(stone, 4), -1);
            Check.same("paid", book.stoneIs(stone, 6), 0);
        }
        Check.answers("the other box stays", DiamondBook.BOX, () -> book.stoneIs(2, 0));
        Check.isThrown(Check.STATE, "again", () -> book.take(0, true));
        Check.answers("take(1, true)", 55, () -> book.take(1, true));
        Check.answers("the other buyer", 1, () -> book.stoneIs(2, 3));
        Check.answers("nothing is left", 0, () -> book.boxes(1));
    }

    private static void aRefusedBoxIsHere() {
        DiamondBook book = withStones(30, 40, 50);
        book.boxes(2);
        Check.answers("take(0, false)", 40, () -> book.take(0, false));
        Check.answers("here", DiamondBook.HERE, () -> book.stoneIs(0, 0));
        Check.answers("the house has it", -1, () -> book.stoneIs(0, 3));
        Check.answers("no box", -1, () -> book.stoneIs(1, 4));
        Check.answers("the other box stays", 0, () -> book.stoneIs(2, 4));
        Check.isThrown(Check.STATE, "again", () -> book.take(0, false));
        Check.answers("offers of before end without harm", 3, () -> book.boxes(5));
        Check.answers("take(1, true)", 55, () -> book.take(1, true));
    }

    private static void conductHasBounds() {
        DiamondBook book = new DiamondBook();
        for (int conduct = 55; conduct <= 100; conduct += 5) {
            book.boxes(1);
            Check.same("taken", book.take(0, true), conduct);
        }
        book.boxes(1);
        Check.answers("no more than 100", 100, () -> book.take(0, true));
        for (int conduct = 90; conduct >= 0; conduct -= 10) {
            book.boxes(5);
            Check.same("refused", book.take(0, false), conduct);
        }
        book.boxes(5);
        Check.answers("no less than 0", 0, () -> book.take(0, false));
        book.boxes(5);
        Check.answers("up again", 5, () -> book.take(0, true));
        for (int turn = 0; turn < 6; turn++) {
            book.boxes(5);
            book.take(0, false);
        }
        Check.answers("the others stay at 50", 55, () -> book.take(4, true));
    }
}
