/**
 * Promises 16 to 20: plans, cuts, cuts again, and what polished stones tell. The plans of all sets
 * of flaws stand in EdgesOfCutsTest.
 */
public final class CutsTest {
    public static void main(String[] args) {
        plansAreForAnyStone();
        aCutMakesPolishedStones();
        aCutHasItsTimes();
        noMoreThanEightyPolishedStones();
        theOwnerKeepsThem();
        aRecutMakesDust();
        polishedStonesTellOfThemselves();
        Check.end();
    }

    private static DiamondBook withStone(int weight, int flaws) {
        DiamondBook book = new DiamondBook();
        book.parcel(2);
        book.stone(0, weight, 1, 3, flaws);
        return book;
    }

    private static void plansAreForAnyStone() {
        DiamondBook book = withStone(500, 64);
        for (int wrong : new int[] {-1, 1, 40, Integer.MAX_VALUE, Integer.MIN_VALUE}) {
            Check.isThrown(Check.INDEX, "plan(" + wrong + ")", () -> book.plan(wrong));
            Check.isThrown(Check.INDEX, "planAnew(" + wrong + ")", () -> book.planAnew(wrong));
        }
        book.cut(0);
        Check.answers("plan of a cut one", 61, () -> book.plan(0));
        Check.answers("planAnew of a cut one", 61, () -> book.planAnew(0));
    }

    private static void aCutMakesPolishedStones() {
        DiamondBook book = withStone(1000, 0b000001000100);
        Check.answers("cut(0)", 3, () -> book.cut(0));
        // 2 cells: 166, of that 99; 3 cells: 250, of that 150; 5 cells: 416, of that 249.
        Check.answers("2 cells", 99, () -> book.polished(0, 1));
        Check.answers("3 cells", 150, () -> book.polished(1, 1));
        Check.answers("5 cells", 249, () -> book.polished(2, 1));
        Check.answers("dust", 502, () -> book.all(3));
        Check.answers("rough", 0, () -> book.all(1));
        Check.answers("polished", 498, () -> book.all(2));
        book.stone(0, 12, 0, 0, 4095);
        Check.answers("all flaws", 0, () -> book.cut(1));
        Check.answers("all dust", 514, () -> book.all(3));
        book.stone(0, 12, 0, 0, 0b111001111111);
        Check.answers("cut(2)", 1, () -> book.cut(2));
        Check.answers("numbered on", 2, () -> book.polished(3, 0));
        Check.answers("the least", 1, () -> book.polished(3, 1));
        book.stone(0, 9999, 0, 0, 0);
        book.cut(3);
        Check.answers("the most", 5999, () -> book.polished(4, 1));
    }

    private static void aCutHasItsTimes() {
        DiamondBook book = withStone(1000, 0);
        book.stone(0, 1000, 0, 0, 0);
        Check.isThrown(Check.INDEX, "cut(2)", () -> book.cut(2));
        Check.isThrown(Check.INDEX, "cut(-1)", () -> book.cut(-1));
        book.sort(0, 0);
        book.boxes(1);
        Check.isThrownAndNothingChanges(book, Check.STATE, "in a box", () -> book.cut(0));
        book.take(0, true);
        Check.answers("sold", 1, () -> book.cut(0));
        Check.isThrownAndNothingChanges(book, Check.STATE, "cut", () -> book.cut(0));
        Check.answers("here", 1, () -> book.cut(1));
    }

    private static void noMoreThanEightyPolishedStones() {
        DiamondBook book = new DiamondBook();
        book.parcel(0);
        int fourParts = 0b000100100100;
        int oneFlaw = 0b000001000000;
        for (int stone = 0; stone < 19; stone++) {
            book.stone(0, 12, 0, 0, fourParts);
            book.cut(stone);
        }
        book.stone(0, 12, 0, 0, 0);
        book.cut(19);
        book.stone(0, 12, 0, 0, fourParts);
        book.tender(20, 3);
        Check.isThrown(Check.STATE, "there would be 81", () -> book.cut(20));
        Check.answers("it is here", DiamondBook.HERE, () -> book.stoneIs(20, 0));
        Check.answers("and rough", 12, () -> book.all(1));
        Check.isThrown(Check.INDEX, "no 78th one", () -> book.polished(77, 0));
        Check.answers("the tender is on", -1, () -> book.bid(0, 5));
        book.stone(0, 12, 0, 0, oneFlaw);
        Check.answers("79", 2, () -> book.cut(21));
        book.stone(0, 12, 0, 0, oneFlaw);
        Check.isThrown(Check.STATE, "there would be 81 again", () -> book.cut(22));
        book.stone(0, 12, 0, 0, 0);
        Check.answers("80", 1, () -> book.cut(23));
        Check.answers("the last one", 23, () -> book.polished(79, 0));
        Check.isThrown(Check.INDEX, "polished(80, 0)", () -> book.polished(80, 0));
        book.stone(0, 12, 0, 0, 4095);
        Check.answers("none more", 0, () -> book.cut(24));
        Check.answers("the tender's stone wins still", 0, () -> book.close());
    }

    private static void theOwnerKeepsThem() {
        DiamondBook book = withStone(1000, 64);
        book.tender(0, 0);
        book.bid(3, 1);
        book.close();
        book.cut(0);
        Check.answers("the first", 3, () -> book.polished(0, 4));
        Check.answers("the second", 3, () -> book.polished(1, 4));
        book.stone(0, 1000, 0, 0, 0);
        book.cut(1);
        Check.answers("the house", -1, () -> book.polished(2, 4));
    }

    private static void aRecutMakesDust() {
        DiamondBook book = withStone(400, 0);
        Check.isThrown(Check.INDEX, "recut(0, 1)", () -> book.recut(0, 1));
        Check.isThrown(Check.INDEX, "recut(0, 0)", () -> book.recut(0, 0));
        book.cut(0);
        for (int wrong : new int[] {240, 241, 0, -1, Integer.MAX_VALUE, Integer.MIN_VALUE}) {
            Check.isThrownAndNothingChanges(book, Check.ARGUMENT, "recut(0, " + wrong + ")",
                () -> book.recut(0, wrong));
            Check.isThrown(Check.INDEX, "recut(1, " + wrong + ")", () -> book.recut(1, wrong));
        }
        Check.isThrown(Check.INDEX, "recut(-1, 1)", () -> book.recut(-1, 1));
        Check.answers("recut(0, 239)", 1, () -> book.recut(0, 239));
        Check.answers("its weight", 239, () -> book.polished(0, 1));
        Check.answers("dust", 161, () -> book.all(3));
        Check.answers("recut(0, 1)", 238, () -> book.recut(0, 1));
        Check.answers("dust then", 399, () -> book.all(3));
        Check.answers("its cells stay", 12, () -> book.polished(0, 3));
        Check.isThrown(Check.ARGUMENT, "no lesser weight", () -> book.recut(0, 1));
    }

    private static void polishedStonesTellOfThemselves() {
        DiamondBook book = withStone(400, 1);
        book.cut(0);
        int[] due = {0, 219, 1, 11, -1, -1, -1, -1, 2};
        for (int what = 0; what < due.length; what++) {
            Check.same("polished(0, " + what + ")", book.polished(0, what), due[what]);
        }
        for (int wrong : new int[] {-1, 9, Integer.MAX_VALUE, Integer.MIN_VALUE}) {
            Check.isThrown(Check.ARGUMENT, "what " + wrong, () -> book.polished(0, wrong));
            Check.isThrown(Check.INDEX, "none, what " + wrong, () -> book.polished(1, wrong));
        }
        Check.isThrown(Check.INDEX, "polished(-1, 0)", () -> book.polished(-1, 0));
        book.look(0, 0);
        Check.answers("one look is no grade", -1, () -> book.polished(0, 5));
        book.look(1, 0);
        Check.answers("grade", 3, () -> book.polished(0, 5));
        Check.answers("price", 219 * 17 * 2, () -> book.polished(0, 6));
        book.recut(0, 100);
        Check.answers("price at 100", 3400, () -> book.polished(0, 6));
        book.recut(0, 99);
        Check.answers("price at 99", 1683, () -> book.polished(0, 6));
        book.paper(0, 2);
        Check.answers("paper", 2, () -> book.polished(0, 7));
        Check.answers("origin", 2, () -> book.polished(0, 8));
    }
}
