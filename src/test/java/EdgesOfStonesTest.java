/** The edges that the document names for parcels, stones, sorts and the price book. */
public final class EdgesOfStonesTest {
    private static final int[] DRIFTS = {-2, -1, 0, 1, 2};

    public static void main(String[] args) {
        thereAreFourPits();
        atMostTwelveParcels();
        atMostFortyStones();
        stonesThatAreGoneKeepTheirNumbers();
        weightsFrom12To9999();
        coloursAndClaritiesFrom0To9();
        setsOfTwelveCells();
        aStoneIsHereAtFirst();
        fourSortersWithoutDriftAtFirst();
        driftsFromMinus2To2();
        theDriftOfThen();
        qualitiesFrom0To18();
        ofOneSortThatCounts();
        ofTwoSortsTheGreaterOne();
        ofThreeSortsTheMiddleOne();
        noSorterSortsTwice();
        threeSortsAtMost();
        sizes();
        pricesAtFirst();
        pricesFrom1To99999();
        eachPriceIsItsOwn();
        valuesAreRoundedDown();
        valuesOfStonesNotSorted();
        eachThingThatAStoneTells();
        aBookForAllItsCalls();
        Check.end();
    }

    // "There are the pits 0 to 3." "Returns its number." (promise 2)
    private static void thereAreFourPits() {
        DiamondBook book = new DiamondBook();
        for (int pit = 0; pit < 4; pit++) {
            Check.same("parcel", book.parcel(pit), pit);
            book.stone(pit, 100, 0, 0, 0);
            book.cut(pit);
            Check.same("the pit", book.polished(pit, 8), pit);
        }
        Check.isThrown(Check.INDEX, "parcel(-1)", () -> book.parcel(-1));
        Check.isThrown(Check.INDEX, "parcel(4)", () -> book.parcel(4));
        Check.answers("the next one", 4, () -> book.parcel(3));
    }

    // "Parcels are numbered from 0, at most 12, each of a pit."
    private static void atMostTwelveParcels() {
        DiamondBook book = new DiamondBook();
        for (int parcel = 0; parcel < 12; parcel++) {
            int next = parcel;
            Check.isThrown(Check.INDEX, "a stone of the next parcel",
                () -> book.stone(next, 12, 0, 0, 0));
            Check.same("parcel", book.parcel(parcel * 3 % 4), parcel);
        }
        Check.isThrown(Check.STATE, "a 13th one", () -> book.parcel(2));
        for (int parcel = 0; parcel < 12; parcel++) {
            Check.same("a stone of it", book.stone(parcel, 100, 0, 0, 0), parcel);
            Check.same("its parcel", book.stoneIs(parcel, 5), parcel);
            book.cut(parcel);
            Check.same("its pit", book.polished(parcel, 8), parcel * 3 % 4);
        }
        Check.isThrown(Check.INDEX, "a stone of a 13th one", () -> book.stone(12, 12, 0, 0, 0));
    }

    // "Rough stones are numbered from 0, at most 40"
    private static void atMostFortyStones() {
        DiamondBook book = new DiamondBook();
        book.parcel(0);
        book.parcel(1);
        for (int stone = 0; stone < 40; stone++) {
            int next = stone;
            Check.isThrown(Check.INDEX, "the next stone", () -> book.value(next));
            Check.same("stone", book.stone(stone % 2, 12 + stone, 0, 0, 0), stone);
        }
        for (int parcel = 0; parcel < 2; parcel++) {
            int full = parcel;
            Check.isThrown(Check.STATE, "a 41st", () -> book.stone(full, 12, 0, 0, 0));
        }
        Check.isThrown(Check.INDEX, "value(40)", () -> book.value(40));
        Check.answers("sort of the last one", 0, () -> book.sort(3, 39));
        Check.answers("its parcel", 1, () -> book.stoneIs(39, 5));
        Check.answers("its value", 51 * 20, () -> book.value(39));
    }

    // "at most 40": those that were SOLD or CUT are of them still
    private static void stonesThatAreGoneKeepTheirNumbers() {
        DiamondBook book = Books.ofSorted(50, 50);
        for (int stone = 2; stone < 40; stone++) {
            book.stone(0, 50, 0, 0, 0);
        }
        book.boxes(1);
        book.take(0, true);
        book.cut(2);
        Check.isThrown(Check.STATE, "a 41st", () -> book.stone(0, 12, 0, 0, 0));
        Check.same("all are there", Books.stones(book, 4, 0), "2 2 3 0");
    }

    // "weight: 12 to 9999" (promise 3)
    private static void weightsFrom12To9999() {
        DiamondBook book = Books.ofStones();
        Check.isThrown(Check.ARGUMENT, "11", () -> book.stone(0, 11, 0, 0, 0));
        Check.isThrown(Check.ARGUMENT, "10000", () -> book.stone(0, 10000, 0, 0, 0));
        Check.answers("nothing came", 0, () -> book.all(0));
        Check.answers("12", 0, () -> book.stone(0, 12, 0, 0, 0));
        Check.answers("9999", 1, () -> book.stone(0, 9999, 0, 0, 0));
        Check.answers("what came", 12 + 9999, () -> book.all(0));
    }

    // "a colour and a clarity, 0, the best one, to 9"
    private static void coloursAndClaritiesFrom0To9() {
        for (int letter = 0; letter <= 9; letter++) {
            DiamondBook book = Books.ofStones();
            book.stone(0, 100, letter, 0, 0);
            book.stone(0, 100, 0, letter, 0);
            Check.same("by colour", book.sort(0, 0), letter);
            Check.same("by clarity", book.sort(0, 1), letter);
            book.cut(0);
            book.cut(1);
            Check.same("colour is not looked at", book.look(0, 0), 0);
            Check.same("clarity is", book.look(0, 1), letter);
        }
        DiamondBook book = Books.ofStones();
        for (int wrong : new int[] {-1, 10}) {
            Check.isThrown(Check.ARGUMENT, "colour", () -> book.stone(0, 100, wrong, 0, 0));
            Check.isThrown(Check.ARGUMENT, "clarity", () -> book.stone(0, 100, 0, wrong, 0));
        }
        Check.answers("the first stone", 0, () -> book.stone(0, 100, 9, 9, 0));
    }

    // "flaws: 0 to 4095: a set of cells" (promise 3), "a row of 12 cells"
    private static void setsOfTwelveCells() {
        DiamondBook book = Books.ofStones();
        Check.isThrown(Check.ARGUMENT, "-1", () -> book.stone(0, 100, 0, 0, -1));
        Check.isThrown(Check.ARGUMENT, "4096", () -> book.stone(0, 100, 0, 0, 4096));
        Check.answers("none", 0, () -> book.stone(0, 100, 0, 0, 0));
        Check.answers("all", 1, () -> book.stone(0, 100, 0, 0, 4095));
        Check.answers("the last cell alone", 2, () -> book.stone(0, 100, 0, 0, 2048));
        Check.answers("all but the last cell", 3, () -> book.stone(0, 100, 0, 0, 2047));
        Check.answers("plan of none", 144, () -> book.plan(0));
        Check.answers("plan of all", 0, () -> book.plan(1));
        Check.answers("plan of the last alone", 121, () -> book.plan(2));
        Check.answers("plan of all but the last", 0, () -> book.plan(3));
    }

    // "It is HERE, in a BOX, SOLD, or CUT."
    private static void aStoneIsHereAtFirst() {
        DiamondBook book = Books.ofSorted(50, 50, 50, 50);
        Check.same("at first", Books.stones(book, 4, 0), "0 0 0 0");
        book.cut(3);
        book.boxes(3);
        book.take(0, true);
        book.take(1, false);
        Check.same("then", Books.stones(book, 4, 0), "2 0 1 3");
    }

    // "There are the sorters 0 to 3, each with a drift, -2 to 2, 0 at first."
    private static void fourSortersWithoutDriftAtFirst() {
        DiamondBook book = Books.ofStones();
        for (int sorter = 0; sorter < 4; sorter++) {
            book.stone(0, 100, 4, 5, 0);
            Check.same("sorted by " + sorter, book.sort(sorter, sorter), 9);
            Check.same("drift of " + sorter, book.drift(sorter, 1), 0);
        }
        for (int wrong : new int[] {-1, 4}) {
            Check.isThrown(Check.INDEX, "drift of " + wrong, () -> book.drift(wrong, 0));
            Check.isThrown(Check.INDEX, "sort by " + wrong, () -> book.sort(wrong, 0));
        }
    }

    // "drift: -2 to 2", "Returns the one before." (promise 4)
    private static void driftsFromMinus2To2() {
        DiamondBook book = new DiamondBook();
        for (int sorter = 0; sorter < 4; sorter++) {
            int one = sorter;
            int before = 0;
            for (int drift : DRIFTS) {
                Check.same("the one before", book.drift(one, drift), before);
                before = drift;
            }
            Check.isThrown(Check.ARGUMENT, "-3", () -> book.drift(one, -3));
            Check.isThrown(Check.ARGUMENT, "3", () -> book.drift(one, 3));
            Check.answers("it stays", 2, () -> book.drift(one, 2));
        }
    }

    // "its colour, its clarity and the drift of then"
    private static void theDriftOfThen() {
        DiamondBook book = Books.ofStones();
        book.stone(0, 100, 4, 4, 0);
        book.stone(0, 100, 4, 4, 0);
        book.drift(0, 1);
        Check.answers("by 1", 9, () -> book.sort(0, 0));
        book.drift(0, -2);
        Check.answers("what was told stays", 9, () -> book.stoneIs(0, 1));
        Check.answers("by -2", 6, () -> book.sort(0, 1));
        Check.answers("another's drift is his own", 8, () -> book.sort(1, 1));
    }

    // "together, from 0 to 18": each colour and clarity with each drift
    private static void qualitiesFrom0To18() {
        for (int colour = 0; colour <= 9; colour++) {
            for (int clarity = 0; clarity <= 9; clarity++) {
                for (int drift : DRIFTS) {
                    DiamondBook book = Books.ofStones();
                    book.stone(0, 100, colour, clarity, 0);
                    book.drift(2, drift);
                    int together = colour + clarity + drift;
                    int due = together < 0 ? 0 : together > 18 ? 18 : together;
                    Check.same("told", book.sort(2, 0), due);
                    Check.same("counts", book.stoneIs(0, 1), due);
                    Check.same("has a price", book.value(0), 200 * (20 - due));
                }
            }
        }
    }

    /** A stone of quality 9, sorted with each drift in turn: its quality, and whether doubtful. */
    private static String sorted(int... drifts) {
        DiamondBook book = Books.ofStones();
        book.stone(0, 100, 4, 5, 0);
        for (int sorter = 0; sorter < drifts.length; sorter++) {
            book.drift(sorter, drifts[sorter]);
            book.sort(sorter, 0);
        }
        return book.stoneIs(0, 1) + " " + book.stoneIs(0, 2);
    }

    // "of one that"
    private static void ofOneSortThatCounts() {
        Check.same("none", sorted(), "-1 0");
        for (int drift : DRIFTS) {
            Check.same("one by " + drift, sorted(drift), 9 + drift + " 0");
        }
    }

    // "if both qualities are 2 or more apart, the stone is doubtful", "of two the greater one,
    // doubtful or not"
    private static void ofTwoSortsTheGreaterOne() {
        for (int first : DRIFTS) {
            for (int second : DRIFTS) {
                int greater = 9 + Math.max(first, second);
                int doubtful = Math.abs(first - second) < 2 ? 0 : 1;
                Check.same("two by " + first + " and " + second, sorted(first, second),
                    greater + " " + doubtful);
            }
        }
        DiamondBook book = Books.ofStones(100);
        book.drift(0, -2);
        book.drift(1, 1);
        book.sort(0, 0);
        book.sort(1, 0);
        Check.answers("told 0 and 1, not -2 and 1: no doubt", 0, () -> book.stoneIs(0, 2));
    }

    // "till it is sorted by a third one; the middle one of three counts"
    private static void ofThreeSortsTheMiddleOne() {
        for (int first : DRIFTS) {
            for (int second : DRIFTS) {
                for (int third : DRIFTS) {
                    int[] rising = {first, second, third};
                    java.util.Arrays.sort(rising);
                    Check.same("three by " + first + ", " + second + " and " + third,
                        sorted(first, second, third), 9 + rising[1] + " 0");
                }
            }
        }
    }

    // "No sorter sorts a stone twice"
    private static void noSorterSortsTwice() {
        for (int sorter = 0; sorter < 4; sorter++) {
            DiamondBook book = Books.ofStones(100, 100);
            int same = sorter;
            int other = (sorter + 1) % 4;
            book.sort(same, 0);
            Check.isThrown(Check.STATE, "at once", () -> book.sort(same, 0));
            book.drift(same, 1);
            Check.isThrown(Check.STATE, "with another drift", () -> book.sort(same, 0));
            book.sort(other, 0);
            Check.isThrown(Check.STATE, "behind another", () -> book.sort(same, 0));
            Check.isThrown(Check.STATE, "the other", () -> book.sort(other, 0));
            Check.answers("another stone", 1, () -> book.sort(same, 1));
        }
    }

    // "and three at most"
    private static void threeSortsAtMost() {
        for (int without = 0; without < 4; without++) {
            DiamondBook book = Books.ofStones(100);
            for (int next = 1; next < 4; next++) {
                Check.same("sorted", book.sort((without + next) % 4, 0), 0);
            }
            for (int sorter = 0; sorter < 4; sorter++) {
                int fourth = sorter;
                Check.isThrown(Check.STATE, "a fourth time", () -> book.sort(fourth, 0));
            }
        }
    }

    private static int valueOf(int weight, int price) {
        DiamondBook book = Books.ofSorted(weight);
        for (int size = 0; size < 4; size++) {
            book.price(size, 0, price);
        }
        return book.value(0);
    }

    // "Its size is 0 below 100, 1 below 300, 2 below 1000, otherwise 3."
    private static void sizes() {
        int[] weights = {12, 99, 100, 101, 299, 300, 301, 999, 1000, 1001, 9999};
        int[] sizes = {0, 0, 1, 1, 1, 2, 2, 2, 3, 3, 3};
        DiamondBook book = Books.ofSorted(weights);
        for (int size = 0; size < 4; size++) {
            book.price(size, 0, 100 * (size + 1));
        }
        for (int stone = 0; stone < weights.length; stone++) {
            Check.same("value of " + weights[stone], book.value(stone),
                weights[stone] * (sizes[stone] + 1));
        }
    }

    // "at first 100 for each 1 of the size and 1 more, times 20 less the quality"
    private static void pricesAtFirst() {
        DiamondBook book = new DiamondBook();
        for (int size = 0; size < 4; size++) {
            for (int quality = 0; quality <= 18; quality++) {
                Check.same("price at first", book.price(size, quality, 7),
                    (100 + 100 * size) * (20 - quality));
            }
        }
        for (int wrong : new int[] {-1, 4}) {
            Check.isThrown(Check.INDEX, "size " + wrong, () -> book.price(wrong, 0, 1));
        }
        for (int size = 0; size < 4; size++) {
            int each = size;
            Check.isThrown(Check.INDEX, "quality -1", () -> book.price(each, -1, 1));
            Check.isThrown(Check.INDEX, "quality 19", () -> book.price(each, 19, 1));
        }
    }

    // "price: 1 to 99999", "Returns the one before." (promise 6)
    private static void pricesFrom1To99999() {
        DiamondBook book = new DiamondBook();
        Check.answers("the least", 2000, () -> book.price(0, 0, 1));
        Check.answers("the most", 1, () -> book.price(0, 0, 99999));
        Check.isThrown(Check.ARGUMENT, "0", () -> book.price(0, 0, 0));
        Check.isThrown(Check.ARGUMENT, "100000", () -> book.price(0, 0, 100000));
        Check.answers("it stays", 99999, () -> book.price(0, 0, 5));
    }

    // "The price book has a price of a carat for each size and quality"
    private static void eachPriceIsItsOwn() {
        DiamondBook book = new DiamondBook();
        for (int place = 0; place < 76; place++) {
            book.price(place / 19, place % 19, 1000 + place);
        }
        for (int place = 0; place < 76; place++) {
            Check.same("its own", book.price(place / 19, place % 19, 1), 1000 + place);
        }
    }

    // "The value of a stone that was sorted is its weight times the price, by 100", rounded down
    private static void valuesAreRoundedDown() {
        Check.same("the least", valueOf(12, 1), 0);
        Check.same("just none", valueOf(99, 1), 0);
        Check.same("just 1", valueOf(100, 1), 1);
        Check.same("96 hundredths", valueOf(12, 8), 0);
        Check.same("108 hundredths", valueOf(12, 9), 1);
        Check.same("199 hundredths", valueOf(199, 1), 1);
        Check.same("the most", valueOf(9999, 99999), 9998900);
    }

    // "Returns the value; NONE if it was not sorted." (promise 7)
    private static void valuesOfStonesNotSorted() {
        DiamondBook book = Books.ofStones(100, 100);
        book.price(1, 0, 3);
        Check.answers("not sorted", DiamondBook.NONE, () -> book.value(0));
        book.sort(1, 1);
        Check.answers("the other was", 3, () -> book.value(1));
        Check.answers("not sorted still", DiamondBook.NONE, () -> book.value(0));
        book.cut(0);
        Check.answers("cut, not sorted", DiamondBook.NONE, () -> book.value(0));
        book.boxes(1);
        Check.answers("in a box", 3, () -> book.value(1));
        book.take(0, true);
        book.price(1, 0, 4);
        Check.answers("sold, by the price of now", 4, () -> book.value(1));
    }

    // "0 how it is, 1 its quality, NONE if it was not sorted, 2 whether it is doubtful (1 or 0),
    // 3 who has it [..] NONE for the house, 4 its box, NONE without, 5 its parcel, 6 what was paid
    // for it by a tender, 0 without" (promise 8)
    private static void eachThingThatAStoneTells() {
        DiamondBook book = Books.ofStones();
        book.parcel(1);
        book.stone(1, 50, 1, 1, 0);
        Check.same("at first", things(book), "0 -1 0 -1 -1 1 0");
        book.drift(0, 2);
        book.sort(0, 0);
        book.sort(1, 0);
        Check.same("doubtful", things(book), "0 4 1 -1 -1 1 0");
        book.sort(2, 0);
        Check.same("sorted by three", things(book), "0 2 0 -1 -1 1 0");
        book.boxes(2);
        Check.same("in a box", things(book), "1 2 0 -1 0 1 0");
        book.take(0, false);
        Check.same("refused", things(book), "0 2 0 -1 -1 1 0");
        book.tender(0, 8);
        Check.same("tendered", things(book), "0 2 0 -1 -1 1 0");
        book.bid(4, 9);
        book.close();
        Check.same("won", things(book), "2 2 0 4 -1 1 8");
        book.cut(0);
        Check.same("cut", things(book), "3 2 0 4 -1 1 8");
        Check.isThrown(Check.ARGUMENT, "-1", () -> book.stoneIs(0, -1));
        Check.isThrown(Check.ARGUMENT, "7", () -> book.stoneIs(0, 7));
    }

    private static String things(DiamondBook book) {
        return Books.row(7, what -> book.stoneIs(0, what));
    }

    // "An object is used for at most 512 calls after it has been made"
    private static void aBookForAllItsCalls() {
        DiamondBook book = Books.ofSorted(50);
        for (int call = 4; call < 512; call += 2) {
            Check.same("boxes", book.boxes(5), 1);
            Check.same("conduct", book.take(0, false), Math.max(0, 50 - 5 * (call - 2)));
        }
        Check.answers("the last call", 0, () -> book.boxValue(1));
        DiamondBook priced = new DiamondBook();
        for (int call = 1; call < 512; call++) {
            priced.price(0, 0, call);
        }
        Check.answers("the 512th call", 511, () -> priced.price(0, 0, 1));
    }
}
