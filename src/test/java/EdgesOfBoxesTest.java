/** The edges that the document names for boxes, offers, and what buyers make of them. */
public final class EdgesOfBoxesTest {
    private static final int NONE = DiamondBook.NONE;

    public static void main(String[] args) {
        fromOneBoxToFive();
        boxesThatWereNotTakenAreOpened();
        onlyStonesThatAreHereSortedAndNotDoubtful();
        byFallingValueOfSeveralTheLowestFirst();
        intoTheLeastBoxOfSeveralTheLowest();
        stonesWithoutValue();
        emptyBoxesAreOffered();
        fullBoxes();
        theDearestBox();
        asManyBuyersAsBoxes();
        buyersByFallingConductOfSeveralTheLowest();
        boxesByFallingValueOfSeveralTheLowest();
        theValuesOfThenAndThePricesOfNow();
        boxesOfThoseThatWereMadeLast();
        takenIsSold();
        refusedIsHere();
        conductIsAtMost100();
        conductIsAtLeast0();
        eitherWayTheBoxIsGone();
        offersBeforeAndBehind();
        Check.end();
    }

    // "When boxes are made, 1 to 5"
    private static void fromOneBoxToFive() {
        for (int boxes = 1; boxes <= 5; boxes++) {
            DiamondBook book = Books.ofSorted(50, 50, 50, 50, 50);
            Check.same("stones in " + boxes, book.boxes(boxes), 5);
            int last = boxes;
            Check.isThrown(Check.INDEX, "no more boxes", () -> book.boxValue(last));
            Check.same("the last box", book.boxValue(boxes - 1), 1000 * (5 / boxes));
        }
        DiamondBook book = Books.ofSorted(50);
        Check.isThrown(Check.ARGUMENT, "boxes(0)", () -> book.boxes(0));
        Check.isThrown(Check.ARGUMENT, "boxes(6)", () -> book.boxes(6));
        Check.answers("it is here", DiamondBook.HERE, () -> book.stoneIs(0, 0));
    }

    // "those of before that were not taken are opened: their stones are HERE"
    private static void boxesThatWereNotTakenAreOpened() {
        DiamondBook book = Books.ofSorted(90, 80, 70, 60, 50);
        book.boxes(5);
        book.take(0, true);
        book.take(1, false);
        Check.same("before", Books.stones(book, 5, 4), "-1 -1 2 3 4");
        Check.answers("all but the sold one", 4, () -> book.boxes(1));
        Check.same("then", Books.stones(book, 5, 4), "-1 0 0 0 0");
        Check.same("how they are", Books.stones(book, 5, 0), "2 1 1 1 1");
        Check.same("one offer", Books.offers(book), "0 -1 -1 -1 -1");
        Check.answers("at once again", 4, () -> book.boxes(4));
        Check.same("opened again", Books.stones(book, 5, 4), "-1 0 1 2 3");
    }

    // "all stones that are HERE, were sorted, and are not doubtful"
    private static void onlyStonesThatAreHereSortedAndNotDoubtful() {
        DiamondBook book = Books.ofStones(50, 50, 50, 50, 50, 50);
        book.drift(1, 2);
        book.drift(2, 1);
        book.sort(0, 0);
        book.sort(0, 1);
        book.sort(1, 1);
        book.sort(0, 2);
        book.sort(2, 2);
        book.sort(0, 3);
        book.cut(3);
        book.sort(0, 4);
        book.tender(4, 0);
        book.bid(0, 1);
        book.close();
        Check.answers("by one sort, and by two 1 apart", 2, () -> book.boxes(1));
        Check.same("the boxes", Books.stones(book, 6, 4), "0 -1 0 -1 -1 -1");
        book.sort(2, 1);
        Check.answers("no doubt more", 3, () -> book.boxes(1));
        Check.same("the boxes then", Books.stones(book, 6, 4), "0 0 0 -1 -1 -1");
    }

    // "by falling value, of several the lowest first"
    private static void byFallingValueOfSeveralTheLowestFirst() {
        DiamondBook rising = Books.ofSorted(50, 60, 70);
        rising.boxes(3);
        Check.same("rising", Books.stones(rising, 3, 4), "2 1 0");
        DiamondBook alike = Books.ofSorted(50, 50, 50);
        alike.boxes(3);
        Check.same("alike", Books.stones(alike, 3, 4), "0 1 2");
        DiamondBook next = Books.ofSorted(50, 51, 51, 50);
        next.boxes(4);
        Check.same("two and two alike", Books.stones(next, 4, 4), "2 0 1 3");
        DiamondBook light = Books.ofSorted(99, 100);
        light.price(1, 0, 1980);
        light.boxes(2);
        Check.same("of one value, not of one weight", Books.stones(light, 2, 4), "0 1");
        light.price(1, 0, 1981);
        light.boxes(2);
        Check.same("by value, not by number", Books.stones(light, 2, 4), "1 0");
        light.price(1, 0, 1979);
        light.boxes(2);
        Check.same("by value, not by weight", Books.stones(light, 2, 4), "0 1");
    }

    // "each into the box with the least value so far, of several the lowest"
    private static void intoTheLeastBoxOfSeveralTheLowest() {
        DiamondBook book = Books.ofSorted(80, 50, 30, 20, 15);
        book.boxes(2);
        // 80 to 0, 50 to 1, 30 to 1: both have 80, so 20 to 0, and then 15 to 1.
        Check.same("two alike", Books.stones(book, 5, 4), "0 1 1 0 1");
        DiamondBook three = Books.ofSorted(60, 40, 40, 20, 20);
        three.boxes(3);
        // 60 to 0, 40 to 1, 40 to 2, 20 to 1, 20 to 2.
        Check.same("the last two", Books.stones(three, 5, 4), "0 1 2 1 2");
    }

    // "the least value so far": a stone of value 0 leaves the box as it was
    private static void stonesWithoutValue() {
        DiamondBook book = Books.ofSorted(99, 50, 12);
        book.price(0, 0, 1);
        Check.answers("in boxes", 3, () -> book.boxes(2));
        Check.same("all in the lowest", Books.stones(book, 3, 4), "0 0 0");
        Check.answers("without value", 0, () -> book.boxValue(0));
        Check.same("offered by number", Books.offers(book), "0 1 -1 -1 -1");
    }

    // "A box is offered even if it is empty."
    private static void emptyBoxesAreOffered() {
        DiamondBook book = new DiamondBook();
        Check.answers("no stones in 5", 0, () -> book.boxes(5));
        Check.same("all offered", Books.offers(book), "0 1 2 3 4");
        Check.answers("the value of nothing", 0, () -> book.boxValue(4));
        Check.answers("taken", 55, () -> book.take(4, true));
        Check.answers("refused", 40, () -> book.take(3, false));
        Check.answers("gone", NONE, () -> book.boxValue(4));
        Check.answers("gone too", NONE, () -> book.boxValue(3));
        Check.answers("not gone", 0, () -> book.boxValue(2));

        DiamondBook some = Books.ofSorted(50, 60);
        Check.answers("2 stones in 4", 2, () -> some.boxes(4));
        Check.same("all 4 are offered", Books.offers(some), "0 1 2 3 -1");
        Check.answers("an empty one taken", 55, () -> some.take(2, true));
        Check.same("sells nothing", Books.stones(some, 2, 0), "1 1");
    }

    // "Returns how many stones are in them." (promise 9): none, and all 40
    private static void fullBoxes() {
        DiamondBook book = Books.ofStones(manyOf(50));
        Check.answers("none are sorted", 0, () -> book.boxes(5));
        for (int stone = 0; stone < 40; stone++) {
            book.sort(stone % 4, stone);
        }
        Check.answers("all 40", 40, () -> book.boxes(5));
        for (int box = 0; box < 5; box++) {
            Check.same("8 in each", book.boxValue(box), 8000);
        }
        Check.answers("the last stone's", 4, () -> book.stoneIs(39, 4));
        Check.answers("all 40 in one", 40, () -> book.boxes(1));
        book.take(0, true);
        Check.answers("the last one is sold", 0, () -> book.stoneIs(39, 3));
        Check.answers("none are left", 0, () -> book.boxes(1));
    }

    private static int[] manyOf(int weight) {
        int[] weights = new int[40];
        java.util.Arrays.fill(weights, weight);
        return weights;
    }

    // the largest sum that a box can come to
    private static void theDearestBox() {
        DiamondBook book = Books.ofSorted(manyOf(9999));
        book.price(3, 0, 99999);
        book.boxes(1);
        Check.answers("40 of the dearest", 40 * 9998900, () -> book.boxValue(0));
        book.boxes(5);
        Check.answers("8 of the dearest", 8 * 9998900, () -> book.boxValue(4));
    }

    // "the buyers, 0 to 4, as many as there are boxes"
    private static void asManyBuyersAsBoxes() {
        String[] due = {"0 -1 -1 -1 -1", "0 1 -1 -1 -1", "0 1 2 -1 -1", "0 1 2 3 -1", "0 1 2 3 4"};
        for (int boxes = 1; boxes <= 5; boxes++) {
            DiamondBook book = new DiamondBook();
            Check.same("no offers at first", Books.offers(book), "-1 -1 -1 -1 -1");
            book.boxes(boxes);
            Check.same("offers of " + boxes, Books.offers(book), due[boxes - 1]);
        }
        DiamondBook book = new DiamondBook();
        book.boxes(5);
        for (int wrong : new int[] {-1, 5}) {
            Check.isThrown(Check.INDEX, "offered(" + wrong + ")", () -> book.offered(wrong));
            Check.isThrown(Check.INDEX, "take(" + wrong + ")", () -> book.take(wrong, true));
        }
        book.boxes(2);
        Check.same("fewer then", Books.offers(book), "0 1 -1 -1 -1");
    }

    // "by falling conduct, 50 at first, of several the lowest first"
    private static void buyersByFallingConductOfSeveralTheLowest() {
        DiamondBook book = new DiamondBook();
        book.boxes(5);
        Check.answers("50 at first", 55, () -> book.take(4, true));
        Check.answers("and 50", 40, () -> book.take(0, false));
        Check.answers("and 50 too", 55, () -> book.take(2, true));
        book.boxes(5);
        // Conduct 40, 50, 55, 50, 55.
        Check.same("all five", Books.offers(book), "4 2 0 3 1");
        book.boxes(1);
        Check.same("one", Books.offers(book), "-1 -1 0 -1 -1");
        book.boxes(3);
        Check.same("three", Books.offers(book), "-1 2 0 -1 1");
        book.boxes(4);
        Check.same("four", Books.offers(book), "-1 2 0 3 1");
    }

    // "that with the greatest value first, of several the lowest"
    private static void boxesByFallingValueOfSeveralTheLowest() {
        DiamondBook alike = Books.ofSorted(50, 50, 50, 50);
        alike.boxes(4);
        Check.same("alike", Books.offers(alike), "0 1 2 3 -1");
        DiamondBook last = Books.ofSorted(60, 50, 40);
        last.boxes(2);
        // 60 in box 0, 90 in box 1.
        Check.same("the last is greater", Books.offers(last), "1 0 -1 -1 -1");
        DiamondBook some = Books.ofSorted(60, 50, 50, 40);
        some.boxes(3);
        // 60 in box 0, 90 in box 1, 50 in box 2.
        Check.same("the middle is greatest", Books.offers(some), "1 0 2 -1 -1");
        DiamondBook empty = Books.ofSorted(60, 50, 50);
        empty.boxes(5);
        Check.same("alike, then the empty", Books.offers(empty), "0 1 2 3 4");
    }

    // "the value of a box, by the prices of now" (promise 10); offers stay as they were made
    private static void theValuesOfThenAndThePricesOfNow() {
        DiamondBook book = Books.ofSorted(99, 100);
        book.boxes(2);
        Check.same("the greater value", Books.stones(book, 2, 4), "1 0");
        Check.answers("by the price of then", 4000, () -> book.boxValue(0));
        book.price(1, 0, 1);
        Check.answers("by the price of now", 1, () -> book.boxValue(0));
        Check.answers("the other", 1980, () -> book.boxValue(1));
        Check.same("offered as before", Books.offers(book), "0 1 -1 -1 -1");
        book.boxes(2);
        Check.same("made anew", Books.stones(book, 2, 4), "0 1");
        Check.answers("the lesser", 1, () -> book.boxValue(1));
    }

    // "Throws IndexOutOfBoundsException if there is no such box of those that were made last"
    private static void boxesOfThoseThatWereMadeLast() {
        DiamondBook book = Books.ofSorted(50);
        Check.isThrown(Check.INDEX, "none were made", () -> book.boxValue(0));
        for (int boxes : new int[] {5, 1, 3}) {
            book.boxes(boxes);
            Check.same("the first", book.boxValue(0), 1000);
            Check.same("the last", book.boxValue(boxes - 1), boxes == 1 ? 1000 : 0);
            Check.isThrown(Check.INDEX, "one more of " + boxes, () -> book.boxValue(boxes));
            Check.isThrown(Check.INDEX, "-1 of " + boxes, () -> book.boxValue(-1));
        }
    }

    // "A buyer takes the box, then its stones are SOLD to this one, and the conduct is 5 more"
    private static void takenIsSold() {
        DiamondBook book = Books.ofSorted(60, 50, 40);
        book.boxes(2);
        Check.answers("5 more", 55, () -> book.take(0, true));
        Check.same("sold", Books.stones(book, 3, 0), "1 2 2");
        Check.same("to", Books.stones(book, 3, 3), "-1 0 0");
        Check.same("without payment by tender", Books.stones(book, 3, 6), "0 0 0");
        Check.answers("the other buyer", 55, () -> book.take(1, true));
        Check.same("to both", Books.stones(book, 3, 3), "1 0 0");
    }

    // "or refuses it, then its stones are HERE, and the conduct is 10 less"
    private static void refusedIsHere() {
        DiamondBook book = Books.ofSorted(60, 50, 40);
        book.boxes(2);
        Check.answers("10 less", 40, () -> book.take(0, false));
        Check.same("here", Books.stones(book, 3, 0), "1 0 0");
        Check.same("of the house", Books.stones(book, 3, 3), "-1 -1 -1");
        Check.answers("sorted once more", 0, () -> book.sort(3, 1));
        Check.answers("cut", 1, () -> book.cut(2));
        Check.answers("boxed again", 2, () -> book.boxes(1));
    }

    // "at most 100"
    private static void conductIsAtMost100() {
        DiamondBook book = new DiamondBook();
        Check.same("9 times", Books.conductAfter(book, 3, true, 9), 95);
        Check.same("just 100", Books.conductAfter(book, 3, true, 1), 100);
        Check.same("no more", Books.conductAfter(book, 3, true, 1), 100);
        Check.same("nor then", Books.conductAfter(book, 3, true, 3), 100);
        Check.same("10 less than 100", Books.conductAfter(book, 3, false, 1), 90);
        Check.same("another's", Books.conductAfter(book, 2, true, 1), 55);
    }

    // "at least 0"
    private static void conductIsAtLeast0() {
        DiamondBook book = new DiamondBook();
        Check.same("4 times", Books.conductAfter(book, 1, false, 4), 10);
        Check.same("just 0", Books.conductAfter(book, 1, false, 1), 0);
        Check.same("no less", Books.conductAfter(book, 1, false, 1), 0);
        Check.same("5 more than 0", Books.conductAfter(book, 1, true, 1), 5);
        Check.same("5 less would be 0", Books.conductAfter(book, 1, false, 1), 0);
        Check.same("5 more than that", Books.conductAfter(book, 1, true, 1), 5);
        book.boxes(4);
        Check.same("the least conduct without", Books.offers(book), "0 -1 1 2 3");
    }

    // "Either way, the box is gone."
    private static void eitherWayTheBoxIsGone() {
        for (boolean isTaken : new boolean[] {true, false}) {
            DiamondBook book = Books.ofSorted(60, 50);
            book.boxes(2);
            book.take(0, isTaken);
            Check.same("offers", Books.offers(book), "-1 1 -1 -1 -1");
            Check.same("boxes", Books.stones(book, 2, 4), "-1 1");
            Check.same("its value", book.boxValue(0), NONE);
            Check.same("the other's value", book.boxValue(1), 1000);
            Check.isThrown(Check.STATE, "taken again", () -> book.take(0, true));
            Check.isThrown(Check.STATE, "refused again", () -> book.take(0, false));
            book.price(0, 0, 500);
            Check.same("gone still", book.boxValue(0), NONE);
            book.boxes(2);
            Check.same("made anew", book.boxValue(0), isTaken ? 250 : 300);
        }
    }

    // "Returns the box; NONE without." (promise 11); "if none is offered" (promise 12)
    private static void offersBeforeAndBehind() {
        DiamondBook book = new DiamondBook();
        for (int buyer = 0; buyer < 5; buyer++) {
            int each = buyer;
            Check.same("before", book.offered(buyer), NONE);
            Check.isThrown(Check.STATE, "nothing to take", () -> book.take(each, true));
        }
        book.boxes(4);
        Check.isThrown(Check.STATE, "none for the last", () -> book.take(4, true));
        for (int buyer = 0; buyer < 4; buyer++) {
            Check.same("offered", book.offered(buyer), buyer);
            book.take(buyer, buyer % 2 == 0);
            Check.same("behind", book.offered(buyer), NONE);
        }
        book.boxes(4);
        Check.same("by conduct then", Books.offers(book), "0 3 1 -1 2");
    }
}
