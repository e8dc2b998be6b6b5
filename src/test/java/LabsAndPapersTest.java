/** Promises 21 to 24: scales, looks, papers, and all weights. */
public final class LabsAndPapersTest {
    public static void main(String[] args) {
        scalesAreToldAndAnswered();
        looksAreWithinTheirBounds();
        gradesFollowTheLooks();
        aLookHasItsTimes();
        papersCoverNoMoreThanCame();
        aPaperIsGivenOnce();
        aPaperIsAskedInOrder();
        allWeightsAreKept();
        Check.end();
    }

    private static DiamondBook withGem(int weight, int clarity) {
        DiamondBook book = new DiamondBook();
        book.parcel(1);
        book.stone(0, weight, 7, clarity, 0);
        book.cut(0);
        return book;
    }

    private static void scalesAreToldAndAnswered() {
        DiamondBook book = new DiamondBook();
        for (int lab = 0; lab < 3; lab++) {
            Check.same("scale at first", book.scale(lab, -1), 0);
        }
        Check.answers("scale(2, 1)", -1, () -> book.scale(2, 1));
        for (int wrong : new int[] {-2, 2, Integer.MAX_VALUE, Integer.MIN_VALUE}) {
            Check.isThrown(Check.ARGUMENT, "scale(2, " + wrong + ")", () -> book.scale(2, wrong));
            Check.isThrown(Check.INDEX, "scale(3, " + wrong + ")", () -> book.scale(3, wrong));
        }
        Check.isThrown(Check.INDEX, "scale(-1, 0)", () -> book.scale(-1, 0));
        Check.answers("after wrong ones", 1, () -> book.scale(2, 0));
        Check.answers("another lab's", -1, () -> book.scale(1, 0));
    }

    private static void looksAreWithinTheirBounds() {
        DiamondBook best = withGem(400, 0);
        best.scale(0, -1);
        Check.answers("no better than 0", 0, () -> best.look(0, 0));
        Check.answers("the same from another lab", 0, () -> best.look(2, 0));
        Check.answers("so it has a grade", 0, () -> best.polished(0, 5));
        DiamondBook worst = withGem(400, 9);
        worst.scale(0, 1);
        Check.answers("no worse than 9", 9, () -> worst.look(0, 0));
        worst.scale(0, -1);
        worst.scale(1, -1);
        Check.answers("by the scale of then", 8, () -> worst.look(1, 0));
        Check.answers("no grade yet", -1, () -> worst.polished(0, 5));
        Check.answers("the third", 9, () -> worst.look(2, 0));
        Check.answers("the middle one", 9, () -> worst.polished(0, 5));
    }

    /** Looks with each scale in turn at a stone of clarity 5 and tells its grade. */
    private static int graded(int... scales) {
        DiamondBook book = withGem(400, 5);
        for (int lab = 0; lab < scales.length; lab++) {
            book.scale(lab, scales[lab]);
            book.look(lab, 0);
        }
        return book.polished(0, 5);
    }

    private static void gradesFollowTheLooks() {
        Check.same("no look", graded(), -1);
        Check.same("one look", graded(1), -1);
        Check.same("two alike", graded(1, 1), 6);
        Check.same("two unlike", graded(0, 1), -1);
        Check.same("first and third alike", graded(0, 1, 0), 5);
        Check.same("second and third alike", graded(0, -1, -1), 4);
        int[][] orders = {{0, 1, -1}, {0, -1, 1}, {1, 0, -1}, {1, -1, 0}, {-1, 0, 1}, {-1, 1, 0}};
        for (int[] order : orders) {
            Check.same("the middle one", graded(order), 5);
        }
    }

    private static void aLookHasItsTimes() {
        DiamondBook book = withGem(400, 5);
        Check.isThrown(Check.INDEX, "look(3, 0)", () -> book.look(3, 0));
        Check.isThrown(Check.INDEX, "look(-1, 0)", () -> book.look(-1, 0));
        Check.isThrown(Check.INDEX, "look(0, 1)", () -> book.look(0, 1));
        Check.isThrown(Check.INDEX, "look(0, -1)", () -> book.look(0, -1));
        Check.answers("look(2, 0)", 5, () -> book.look(2, 0));
        book.scale(2, 1);
        Check.isThrownAndNothingChanges(book, Check.STATE, "again", () -> book.look(2, 0));
        book.scale(0, 1);
        book.look(0, 0);
        Check.isThrown(Check.STATE, "the second again", () -> book.look(0, 0));
        book.look(1, 0);
        Check.isThrown(Check.STATE, "a fourth look", () -> book.look(1, 0));
        DiamondBook graded = withGem(400, 5);
        graded.look(0, 0);
        graded.look(1, 0);
        Check.isThrownAndNothingChanges(graded, Check.STATE, "a grade", () -> graded.look(2, 0));
        graded.stone(0, 400, 0, 2, 0);
        graded.cut(1);
        Check.answers("another stone", 2, () -> graded.look(0, 1));
    }

    private static void papersCoverNoMoreThanCame() {
        DiamondBook book = new DiamondBook();
        book.parcel(0);
        book.parcel(3);
        book.stone(0, 100, 0, 0, 0);
        book.stone(0, 100, 0, 0, 0);
        book.stone(1, 100, 0, 0, 0);
        for (int stone = 0; stone < 3; stone++) {
            book.cut(stone);
        }
        Check.isThrownAndNothingChanges(book, Check.STATE, "nothing came", () -> book.paper(0, 1));
        Check.answers("60 of 100", 40, () -> book.paper(0, 3));
        Check.isThrownAndNothingChanges(book, Check.STATE, "60 of 40", () -> book.paper(1, 3));
        Check.answers("another pit's", 140, () -> book.paper(1, 0));
        book.recut(2, 41);
        Check.isThrown(Check.STATE, "41 of 40", () -> book.paper(2, 3));
        book.recut(2, 40);
        Check.answers("40 of 40", 0, () -> book.paper(2, 3));
        Check.answers("covered", 160, () -> book.all(4));
        Check.answers("of another pit", 1, () -> book.all(5));
        book.parcel(3);
        book.stone(2, 55, 0, 0, 0);
        book.cut(3);
        Check.answers("more came in another parcel", 22, () -> book.paper(3, 3));
    }

    private static void aPaperIsGivenOnce() {
        DiamondBook book = withGem(400, 5);
        Check.answers("none", -1, () -> book.polished(0, 7));
        Check.answers("paper(0, 1)", 160, () -> book.paper(0, 1));
        Check.isThrownAndNothingChanges(book, Check.STATE, "again", () -> book.paper(0, 1));
        book.recut(0, 10);
        Check.answers("for its weight of then", 240, () -> book.all(4));
        Check.isThrown(Check.STATE, "again, lighter", () -> book.paper(0, 1));
        Check.answers("its paper", 1, () -> book.polished(0, 7));
    }

    private static void aPaperIsAskedInOrder() {
        DiamondBook book = withGem(400, 5);
        book.paper(0, 1);
        for (int wrong : new int[] {-1, 4, Integer.MAX_VALUE, Integer.MIN_VALUE}) {
            Check.isThrown(Check.INDEX, "pit " + wrong, () -> book.paper(0, wrong));
            Check.isThrown(Check.INDEX, "polished " + wrong, () -> book.paper(wrong, 0));
        }
    }

    private static void allWeightsAreKept() {
        DiamondBook book = new DiamondBook();
        book.parcel(0);
        book.parcel(2);
        book.stone(0, 1000, 0, 0, 64);
        book.stone(1, 500, 0, 0, 0);
        book.stone(1, 300, 0, 0, 0);
        book.stone(0, 200, 0, 0, 0);
        Check.answers("came", 2000, () -> book.all(0));
        book.sort(0, 1);
        book.sort(0, 2);
        book.boxes(2);
        book.take(0, true);
        Check.answers("rough, sold or boxed or here", 2000, () -> book.all(1));
        book.cut(0);
        book.cut(1);
        // 6 cells: 500, of that 300; 5 cells: 416, of that 249; 12 cells: 500, of that 300.
        Check.answers("came then", 2000, () -> book.all(0));
        Check.answers("rough", 500, () -> book.all(1));
        Check.answers("polished", 849, () -> book.all(2));
        Check.answers("dust", 651, () -> book.all(3));
        book.recut(1, 200);
        Check.answers("polished then", 800, () -> book.all(2));
        Check.answers("dust then", 700, () -> book.all(3));
        book.paper(0, 2);
        book.paper(1, 0);
        book.paper(2, 0);
        Check.answers("covered", 800, () -> book.all(4));
        Check.answers("of another pit", 2, () -> book.all(5));
        for (int wrong : new int[] {-1, 6, Integer.MAX_VALUE, Integer.MIN_VALUE}) {
            Check.isThrown(Check.ARGUMENT, "all(" + wrong + ")", () -> book.all(wrong));
        }
    }
}
