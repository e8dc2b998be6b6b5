/** The edges that the document names for plans, cuts, cuts again, and polished stones. */
public final class EdgesOfCutsTest {
    private static final int NONE = DiamondBook.NONE;
    private static final int CELLS = 12;
    private static final int ALL_FLAWS = 4095;

    public static void main(String[] args) {
        runsOfAllLengthsAtAllPlaces();
        oneCellIsNoPolishedStone();
        theRowHasTwoEnds();
        oneFlawBetweenTwo();
        aWholeRunIsNotParted();
        thePlanWithTheGreatestWorth();
        thePlansOfAnyStone();
        hereOrSoldCanBeCut();
        inABoxOrCutCanNot();
        partsOfTheWeightAreRoundedDownTwice();
        allElseIsDust();
        noPolishedStonesOfIt();
        atMostEightyPolishedStones();
        numberedInTheOrderOfTheirCells();
        theyBelongToWhoHadTheRoughOne();
        recutFrom1ToLessThanItsWeight();
        recutOfTheLeastWeights();
        theRestIsDust();
        eachThingThatAPolishedStoneTells();
        Check.end();
    }

    /** All cells but so many from the first one have flaws. */
    private static int allBut(int first, int cells) {
        return ALL_FLAWS & ~((1 << cells) - 1 << first);
    }

    /** Worth by both plans, then the first cell and the cells of each polished stone. */
    private static String planned(int flaws) {
        DiamondBook book = Books.ofFlaws(1200, flaws);
        StringBuilder row = new StringBuilder();
        row.append(book.plan(0)).append(' ').append(book.planAnew(0)).append(':');
        int count = book.cut(0);
        for (int gem = 0; gem < count; gem++) {
            int cells = book.polished(gem, 3);
            row.append(' ').append(book.polished(gem, 2)).append('+').append(cells);
            Check.same("weight of " + cells + " cells", book.polished(gem, 1), 60 * cells);
        }
        Check.isThrown(Check.INDEX, "no polished stone more", () -> book.polished(count, 0));
        return row.toString();
    }

    // "A polished stone of n cells has the worth n times n"
    private static void runsOfAllLengthsAtAllPlaces() {
        for (int cells = 2; cells <= CELLS; cells++) {
            for (int first = 0; first + cells <= CELLS; first++) {
                int worth = cells * cells;
                Check.same(cells + " cells from " + first, planned(allBut(first, cells)),
                    worth + " " + worth + ": " + first + "+" + cells);
            }
        }
        Check.same("all flaws", planned(ALL_FLAWS), "0 0:");
    }

    // "each is 2 or more cells side by side without flaws"
    private static void oneCellIsNoPolishedStone() {
        for (int cell = 0; cell < CELLS; cell++) {
            Check.same("cell " + cell + " alone", planned(allBut(cell, 1)), "0 0:");
        }
        Check.same("each second cell", planned(0b010101010101), "0 0:");
        Check.same("each other cell", planned(0b101010101010), "0 0:");
        Check.same("1, 2 and 1", planned(0b111110110010), "4 4: 2+2");
        Check.same("1, 2 and 3", planned(0b111100010010), "13 13: 2+2 5+3");
    }

    // "the row of a stone": the last cell and the first are not side by side
    private static void theRowHasTwoEnds() {
        Check.same("both ends", planned(0b011111111110), "0 0:");
        Check.same("two at both ends", planned(0b001111111100), "8 8: 0+2 10+2");
        Check.same("one and two", planned(0b001111111110), "4 4: 10+2");
        Check.same("two and one", planned(0b011111111100), "4 4: 0+2");
    }

    // "at least one cell is between two of them"
    private static void oneFlawBetweenTwo() {
        for (int flaw = 0; flaw < CELLS; flaw++) {
            int left = flaw < 2 ? 0 : flaw;
            int right = CELLS - 1 - flaw < 2 ? 0 : CELLS - 1 - flaw;
            int worth = left * left + right * right;
            String due = worth + " " + worth + ":" + (left == 0 ? "" : " 0+" + left)
                + (right == 0 ? "" : " " + (flaw + 1) + "+" + right);
            Check.same("a flaw in cell " + flaw, planned(1 << flaw), due);
        }
        Check.same("four of two", planned(0b100100100100), "16 16: 0+2 3+2 6+2 9+2");
    }

    // "The plan is that with the greatest worth": to leave out a cell between has less
    private static void aWholeRunIsNotParted() {
        Check.same("no flaws", planned(0), "144 144: 0+12");
        Check.same("5 cells, not 2 and 2", planned(allBut(3, 5)), "25 25: 3+5");
        Check.same("3 cells, not 2", planned(allBut(9, 3)), "9 9: 9+3");
    }

    // "of several with the fewest polished stones; then that whose first one begins at the lowest
    // cell, and then is the longest; then likewise the second one": as by all sets in the model
    private static void thePlanWithTheGreatestWorth() {
        Model model = new Model();
        for (int flaws = 0; flaws <= ALL_FLAWS; flaws++) {
            StringBuilder due = new StringBuilder();
            int worth = 0;
            for (int[] part : model.planOf(flaws)) {
                due.append(' ').append(part[0]).append('+').append(part[1]);
                worth += part[1] * part[1];
            }
            Check.same("flaws " + flaws, planned(flaws), worth + " " + worth + ":" + due);
        }
    }

    // "Throws IndexOutOfBoundsException if there is no such stone", and nothing else: however it is
    private static void thePlansOfAnyStone() {
        DiamondBook book = Books.ofSorted(50, 60, 70);
        book.stone(0, 80, 0, 0, 1);
        book.boxes(2);
        book.take(0, true);
        book.cut(3);
        Check.same("how they are", Books.stones(book, 4, 0), "2 2 1 3");
        for (int stone = 0; stone < 4; stone++) {
            Check.same("plan", book.plan(stone), stone == 3 ? 121 : 144);
            Check.same("planAnew", book.planAnew(stone), stone == 3 ? 121 : 144);
        }
        Check.same("as they were", Books.stones(book, 4, 0), "2 2 1 3");
        for (int wrong : new int[] {-1, 4}) {
            Check.isThrown(Check.INDEX, "plan(" + wrong + ")", () -> book.plan(wrong));
            Check.isThrown(Check.INDEX, "planAnew(" + wrong + ")", () -> book.planAnew(wrong));
        }
    }

    // "A stone that is HERE, or SOLD, can be cut by the plan"
    private static void hereOrSoldCanBeCut() {
        DiamondBook book = Books.ofSorted(50, 50);
        book.boxes(2);
        book.take(0, true);
        book.take(1, false);
        Check.answers("sold by a box", 1, () -> book.cut(0));
        Check.answers("refused", 1, () -> book.cut(1));
        DiamondBook other = Books.ofStones(50, 50, 50);
        other.tender(0, 0);
        other.bid(2, 1);
        other.close();
        Check.answers("sold by a tender", 1, () -> other.cut(0));
        Check.answers("not sorted", 1, () -> other.cut(1));
        other.sort(0, 2);
        other.drift(1, 2);
        other.sort(1, 2);
        Check.answers("doubtful", 1, () -> other.cut(2));
        Check.same("all are cut", Books.stones(other, 3, 0), "3 3 3");
    }

    // "if it is in a BOX, or CUT" (promise 18)
    private static void inABoxOrCutCanNot() {
        DiamondBook book = Books.ofSorted(50);
        book.boxes(3);
        Check.isThrown(Check.STATE, "in a box", () -> book.cut(0));
        Check.same("in the box still", Books.stones(book, 1, 4), "0");
        book.take(0, true);
        book.cut(0);
        Check.isThrown(Check.STATE, "cut again", () -> book.cut(0));
        Check.isThrown(Check.INDEX, "no second polished stone", () -> book.polished(1, 0));
        DiamondBook flawed = Books.ofFlaws(50, ALL_FLAWS);
        flawed.cut(0);
        Check.isThrown(Check.STATE, "cut to dust, again", () -> flawed.cut(0));
        Check.answers("the dust", 50, () -> flawed.all(3));
    }

    // "n times the weight of the rough one, by 12, rounded down, and of that 60 hundredths, rounded
    // down": each n with weights that leave each rest of 12, the least and the most
    private static void partsOfTheWeightAreRoundedDownTwice() {
        int[] weights = {12, 13, 14, 15, 16, 17, 18, 19, 20, 21, 22, 23, 99, 100, 1000, 9998, 9999};
        for (int cells = 2; cells <= CELLS; cells++) {
            for (int weight : weights) {
                DiamondBook book = Books.ofFlaws(weight, allBut(0, cells));
                book.cut(0);
                int part = (cells * weight - cells * weight % 12) / 12;
                int due = (part * 60 - part * 60 % 100) / 100;
                Check.same(cells + " cells of " + weight, book.polished(0, 1), due);
                Check.same("dust of " + weight, book.all(3), weight - due);
            }
        }
        DiamondBook book = Books.ofFlaws(1000, allBut(0, 2));
        book.cut(0);
        Check.answers("166, of that 99, not 100", 99, () -> book.polished(0, 1));
        DiamondBook least = Books.ofFlaws(12, allBut(10, 2));
        least.cut(0);
        Check.answers("the least that there is", 1, () -> least.polished(0, 1));
        DiamondBook most = Books.ofFlaws(9999, 0);
        most.cut(0);
        Check.answers("the most that there is", 5999, () -> most.polished(0, 1));
    }

    // "all else is dust"
    private static void allElseIsDust() {
        DiamondBook book = Books.ofFlaws(1000, 0b000001000100, ALL_FLAWS, 0);
        book.cut(0);
        // 2, 3 and 5 cells: 99, 150 and 249.
        Check.answers("dust of one", 502, () -> book.all(3));
        book.cut(1);
        Check.answers("of all flaws", 1502, () -> book.all(3));
        Check.answers("rough yet", 1000, () -> book.all(1));
        book.cut(2);
        Check.answers("of no flaws", 1902, () -> book.all(3));
        Check.answers("polished", 498 + 600, () -> book.all(2));
        Check.answers("rough no more", 0, () -> book.all(1));
    }

    // "Returns how many polished stones there are of it." (promise 18): none
    private static void noPolishedStonesOfIt() {
        DiamondBook book = Books.ofFlaws(50, ALL_FLAWS, 0);
        Check.answers("none", 0, () -> book.cut(0));
        Check.same("cut all the same", Books.stones(book, 2, 0), "3 0");
        Check.isThrown(Check.INDEX, "polished(0, 0)", () -> book.polished(0, 0));
        Check.answers("the next has the first one", 1, () -> book.cut(1));
        Check.answers("its rough one", 1, () -> book.polished(0, 0));
    }

    /** Cut stones with so many polished stones together, in fours and ones, then uncut ones. */
    private static DiamondBook withGems(int count, int... flaws) {
        DiamondBook book = Books.ofStones();
        int stones = 0;
        for (int gems = 0; gems < count; stones++) {
            boolean isFour = gems + 4 <= count;
            book.stone(0, 60, 0, 0, isFour ? 0b100100100100 : 0);
            gems += book.cut(stones);
        }
        for (int set : flaws) {
            book.stone(0, 60, 0, 0, set);
        }
        return book;
    }

    // "Polished stones are numbered from 0, at most 80", "or there would be more than 80"
    private static void atMostEightyPolishedStones() {
        int four = 0b100100100100;
        int two = 0b000001000000;
        DiamondBook just = withGems(76, four, 0, ALL_FLAWS);
        Check.answers("76 and 4", 4, () -> just.cut(19));
        Check.answers("the last one", 19, () -> just.polished(79, 0));
        Check.isThrown(Check.INDEX, "polished(80, 0)", () -> just.polished(80, 0));
        Check.isThrown(Check.STATE, "80 and 1", () -> just.cut(20));
        Check.answers("it stays", DiamondBook.HERE, () -> just.stoneIs(20, 0));
        Check.answers("80 and none", 0, () -> just.cut(21));
        Check.answers("recut of the last one", 1,
            () -> just.recut(79, just.polished(79, 1) - 1));

        DiamondBook beyond = withGems(77, four, two, 0);
        Check.isThrown(Check.STATE, "77 and 4", () -> beyond.cut(20));
        Check.isThrown(Check.INDEX, "none of them", () -> beyond.polished(77, 0));
        Check.answers("77 and 2", 2, () -> beyond.cut(21));
        Check.answers("79 and 1", 1, () -> beyond.cut(22));
        Check.answers("the last one", 22, () -> beyond.polished(79, 0));

        DiamondBook one = withGems(79, two, 0);
        Check.isThrown(Check.STATE, "79 and 2", () -> one.cut(22));
        Check.answers("not cut", DiamondBook.HERE, () -> one.stoneIs(22, 0));
        Check.answers("then 79 and 1", 1, () -> one.cut(23));
    }

    // "in the order of their cells"
    private static void numberedInTheOrderOfTheirCells() {
        DiamondBook book = Books.ofFlaws(1200, 0b100100100100, 0b000001000000);
        book.cut(1);
        book.cut(0);
        int[] roughs = {1, 1, 0, 0, 0, 0};
        int[] firsts = {0, 7, 0, 3, 6, 9};
        for (int gem = 0; gem < 6; gem++) {
            Check.same("rough of " + gem, book.polished(gem, 0), roughs[gem]);
            Check.same("first cell of " + gem, book.polished(gem, 2), firsts[gem]);
        }
    }

    // "they belong to who had the rough one, or to the house"
    private static void theyBelongToWhoHadTheRoughOne() {
        for (int buyer = 0; buyer < 5; buyer++) {
            DiamondBook book = Books.ofFlaws(100, 64, 64, 64);
            book.tender(0, 0);
            book.bid(buyer, 1);
            book.close();
            book.sort(0, 1);
            book.boxes(5);
            int owner = 0;
            while (book.offered(owner) != 0) {
                owner++;
            }
            book.take(owner, true);
            for (int stone = 0; stone < 3; stone++) {
                book.cut(stone);
            }
            int[] due = {buyer, buyer, owner, owner, NONE, NONE};
            for (int gem = 0; gem < 6; gem++) {
                Check.same("who has " + gem, book.polished(gem, 4), due[gem]);
            }
        }
    }

    // "weight: 1 to less than its weight" (promise 19)
    private static void recutFrom1ToLessThanItsWeight() {
        DiamondBook book = Books.ofGem(100, 0);
        for (int wrong : new int[] {0, -1, 60, 61}) {
            Check.isThrown(Check.ARGUMENT, "60 to " + wrong, () -> book.recut(0, wrong));
        }
        Check.answers("as it was", 60, () -> book.polished(0, 1));
        Check.answers("60 to 59", 1, () -> book.recut(0, 59));
        Check.isThrown(Check.ARGUMENT, "59 to 59", () -> book.recut(0, 59));
        Check.isThrown(Check.ARGUMENT, "59 to 60", () -> book.recut(0, 60));
        Check.answers("59 to 1", 58, () -> book.recut(0, 1));
        Check.isThrown(Check.ARGUMENT, "1 to 1", () -> book.recut(0, 1));
        Check.isThrown(Check.ARGUMENT, "1 to 0", () -> book.recut(0, 0));
        for (int wrong : new int[] {-1, 1, 80}) {
            Check.isThrown(Check.INDEX, "recut(" + wrong + ", 1)", () -> book.recut(wrong, 1));
        }
    }

    // "1 to less than its weight", where that is little
    private static void recutOfTheLeastWeights() {
        DiamondBook book = Books.ofFlaws(12, allBut(0, 2), allBut(0, 4));
        book.cut(0);
        book.cut(1);
        Check.answers("1", 1, () -> book.polished(0, 1));
        Check.isThrown(Check.ARGUMENT, "1 to 1", () -> book.recut(0, 1));
        Check.answers("2", 2, () -> book.polished(1, 1));
        Check.answers("2 to 1", 1, () -> book.recut(1, 1));
        DiamondBook most = Books.ofGem(9999, 0);
        Check.answers("the most to the least", 5998, () -> most.recut(0, 1));
    }

    // "They can be cut again to a lesser weight: the rest is dust."
    private static void theRestIsDust() {
        DiamondBook book = Books.ofGem(100, 0);
        book.stone(0, 100, 0, 0, 0);
        book.cut(1);
        Check.answers("dust of both", 80, () -> book.all(3));
        Check.answers("recut", 20, () -> book.recut(0, 40));
        Check.answers("and then", 100, () -> book.all(3));
        Check.answers("again", 39, () -> book.recut(0, 1));
        Check.answers("and then", 139, () -> book.all(3));
        Check.answers("polished", 61, () -> book.all(2));
        Check.answers("came", 200, () -> book.all(0));
        Check.answers("the other stays", 60, () -> book.polished(1, 1));
    }

    // "0 its rough one, 1 its weight, 2 its first cell, 3 how many cells it had, 4 who has it, NONE
    // for the house, 5 its grade, NONE without, 6 its price, NONE without a grade, 7 the pit of its
    // paper, NONE without, 8 its true origin" (promise 20)
    private static void eachThingThatAPolishedStoneTells() {
        DiamondBook book = new DiamondBook();
        book.parcel(1);
        book.parcel(3);
        book.stone(0, 600, 0, 0, ALL_FLAWS);
        book.stone(1, 600, 0, 7, allBut(4, 6));
        book.tender(1, 0);
        book.bid(2, 1);
        book.close();
        book.cut(1);
        Check.same("at first", things(book), "1 180 4 6 2 -1 -1 -1 3");
        book.look(0, 0);
        Check.same("looked at", things(book), "1 180 4 6 2 -1 -1 -1 3");
        book.look(2, 0);
        Check.same("graded", things(book), "1 180 4 6 2 7 4680 -1 3");
        book.paper(0, 1);
        Check.same("with a paper", things(book), "1 180 4 6 2 7 4680 1 3");
        book.recut(0, 99);
        Check.same("recut", things(book), "1 99 4 6 2 7 1287 1 3");
        Check.isThrown(Check.ARGUMENT, "-1", () -> book.polished(0, -1));
        Check.isThrown(Check.ARGUMENT, "9", () -> book.polished(0, 9));
    }

    private static String things(DiamondBook book) {
        return Books.row(9, what -> book.polished(0, what));
    }
}
