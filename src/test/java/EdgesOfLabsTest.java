/** The edges that the document names for labs, looks, grades, papers, and all weights. */
public final class EdgesOfLabsTest {
    private static final int NONE = DiamondBook.NONE;

    public static void main(String[] args) {
        threeLabsWithoutScaleAtFirst();
        scalesFromMinus1To1();
        looksFrom0To9();
        theScaleOfThen();
        oneLookIsNoGrade();
        theGradeOfTwoThatAreTheSame();
        theMiddleOneOfThree();
        gradesAtTheEnds();
        aLabLooksOnce();
        noLookBehindAGrade();
        pricesBy20LessTheGrade();
        twiceAsMuchFrom100();
        noPriceWithoutAGrade();
        papersCoverAtMostWhatCame();
        whatCameInAllParcels();
        whatCameIsNotWhatIsPolished();
        eachPitIsItsOwn();
        givenOnce();
        forItsWeightAsItIsThen();
        theTrueOrigin();
        papersOfAnotherPit();
        eachSumOfAnEmptyBook();
        eachSumOfAllWeights();
        Check.end();
    }

    // "There are the labs 0 to 2, with scales, -1 to 1, 0 at first."
    private static void threeLabsWithoutScaleAtFirst() {
        for (int lab = 0; lab < 3; lab++) {
            DiamondBook book = Books.ofGem(100, 5);
            Check.same("by no scale", book.look(lab, 0), 5);
            Check.same("scale at first", book.scale(lab, 1), 0);
        }
        DiamondBook book = Books.ofGem(100, 5);
        for (int wrong : new int[] {-1, 3}) {
            Check.isThrown(Check.INDEX, "scale of " + wrong, () -> book.scale(wrong, 0));
            Check.isThrown(Check.INDEX, "look of " + wrong, () -> book.look(wrong, 0));
            Check.isThrown(Check.INDEX, "look at " + wrong, () -> book.look(0, wrong));
        }
    }

    // "scale: -1 to 1", "Returns the one before." (promise 21)
    private static void scalesFromMinus1To1() {
        DiamondBook book = new DiamondBook();
        for (int lab = 0; lab < 3; lab++) {
            int one = lab;
            Check.same("to -1", book.scale(one, -1), 0);
            Check.same("to 0", book.scale(one, 0), -1);
            Check.same("to 1", book.scale(one, 1), 0);
            Check.isThrown(Check.ARGUMENT, "to -2", () -> book.scale(one, -2));
            Check.isThrown(Check.ARGUMENT, "to 2", () -> book.scale(one, 2));
            Check.same("it stays", book.scale(one, 1), 1);
        }
    }

    // "the clarity of the rough one and the scale of then, from 0 to 9": each with each scale
    private static void looksFrom0To9() {
        for (int clarity = 0; clarity <= 9; clarity++) {
            for (int scale = -1; scale <= 1; scale++) {
                DiamondBook book = Books.ofGem(100, clarity);
                book.scale(1, scale);
                int due = Math.max(0, Math.min(9, clarity + scale));
                Check.same("clarity " + clarity + " by " + scale, book.look(1, 0), due);
            }
        }
    }

    // "the scale of then"
    private static void theScaleOfThen() {
        DiamondBook book = Books.ofGem(100, 5);
        book.scale(0, 1);
        Check.answers("by 1", 6, () -> book.look(0, 0));
        book.scale(0, -1);
        Check.answers("what the first told stays", 5, () -> book.look(1, 0));
        book.scale(2, 1);
        Check.answers("the third", 6, () -> book.look(2, 0));
        Check.answers("the grade of 6, 5 and 6", 6, () -> book.polished(0, 5));
        book.scale(2, -1);
        Check.answers("it stays", 6, () -> book.polished(0, 5));
    }

    /** A polished stone of this clarity, looked at by each scale in turn: its grade. */
    private static int graded(int clarity, int... scales) {
        DiamondBook book = Books.ofGem(100, clarity);
        for (int lab = 0; lab < scales.length; lab++) {
            book.scale(lab, scales[lab]);
            book.look(lab, 0);
        }
        return book.polished(0, 5);
    }

    // "5 its grade, NONE without" (promise 20)
    private static void oneLookIsNoGrade() {
        Check.same("no look", graded(5), NONE);
        for (int scale = -1; scale <= 1; scale++) {
            Check.same("one look", graded(5, scale), NONE);
        }
    }

    // "The grade is that of the first two looks, if they are the same"
    private static void theGradeOfTwoThatAreTheSame() {
        for (int first = -1; first <= 1; first++) {
            for (int second = -1; second <= 1; second++) {
                Check.same("by " + first + " and " + second, graded(5, first, second),
                    first == second ? 5 + first : NONE);
            }
        }
    }

    // "otherwise the middle one of three, if there are three"
    private static void theMiddleOneOfThree() {
        for (int place = 0; place < 27; place++) {
            int[] scales = {place / 9 - 1, place / 3 % 3 - 1, place % 3 - 1};
            if (scales[0] != scales[1]) {
                int[] rising = scales.clone();
                java.util.Arrays.sort(rising);
                Check.same("by " + scales[0] + ", " + scales[1] + " and " + scales[2],
                    graded(5, scales), 5 + rising[1]);
            }
        }
    }

    // "from 0 to 9": looks that are the same only as they go no further
    private static void gradesAtTheEnds() {
        Check.same("0 and 0", graded(0, 0, -1), 0);
        Check.same("0 and 1", graded(0, -1, 1), NONE);
        Check.same("0, 1 and 0", graded(0, -1, 1, 0), 0);
        Check.same("0, 1 and 1", graded(0, 0, 1, 1), 1);
        Check.same("9 and 9", graded(9, 1, 0), 9);
        Check.same("9 and 8", graded(9, 1, -1), NONE);
        Check.same("9, 8 and 9", graded(9, 1, -1, 0), 9);
        Check.same("9, 8 and 8", graded(9, 0, -1, -1), 8);
    }

    // "a lab looks once at a stone"
    private static void aLabLooksOnce() {
        for (int lab = 0; lab < 3; lab++) {
            DiamondBook book = Books.ofGem(100, 5);
            book.stone(0, 100, 0, 2, 0);
            book.cut(1);
            int same = lab;
            int other = (lab + 1) % 3;
            book.look(same, 0);
            Check.isThrown(Check.STATE, "at once", () -> book.look(same, 0));
            book.scale(same, 1);
            Check.isThrown(Check.STATE, "with another scale", () -> book.look(same, 0));
            book.scale(other, -1);
            book.look(other, 0);
            Check.isThrown(Check.STATE, "behind another", () -> book.look(same, 0));
            Check.isThrown(Check.STATE, "the other", () -> book.look(other, 0));
            Check.answers("no grade by these", NONE, () -> book.polished(0, 5));
            Check.answers("another stone", 3, () -> book.look(same, 1));
        }
    }

    // "if it has looked at it, or it has a grade" (promise 22)
    private static void noLookBehindAGrade() {
        DiamondBook two = Books.ofGem(100, 5);
        two.look(0, 0);
        two.look(2, 0);
        DiamondBook three = Books.ofGem(100, 5);
        three.scale(1, 1);
        three.look(0, 0);
        three.look(1, 0);
        three.look(2, 0);
        for (int lab = 0; lab < 3; lab++) {
            int each = lab;
            Check.isThrown(Check.STATE, "a grade by two", () -> two.look(each, 0));
            Check.isThrown(Check.STATE, "a grade by three", () -> three.look(each, 0));
        }
        Check.answers("the grade by two", 5, () -> two.polished(0, 5));
        Check.answers("the grade by three", 5, () -> three.polished(0, 5));
    }

    /** A polished stone of this weight and grade: its price. */
    private static int priced(int weight, int grade) {
        DiamondBook book = Books.ofGem(9999, grade);
        if (weight < 5999) {
            book.recut(0, weight);
        }
        book.look(0, 0);
        book.look(1, 0);
        return book.polished(0, 6);
    }

    // "its weight times 20 less the grade"
    private static void pricesBy20LessTheGrade() {
        for (int grade = 0; grade <= 9; grade++) {
            Check.same("grade " + grade, priced(50, grade), 50 * (20 - grade));
        }
        Check.same("the least", priced(1, 9), 11);
        Check.same("the most", priced(5999, 0), 5999 * 40);
    }

    // "twice as much, if it weighs 100 or more"
    private static void twiceAsMuchFrom100() {
        Check.same("99", priced(99, 3), 99 * 17);
        Check.same("100", priced(100, 3), 100 * 34);
        Check.same("101", priced(101, 3), 101 * 34);
        DiamondBook heavy = Books.ofGem(1000, 0);
        heavy.recut(0, 99);
        heavy.look(0, 0);
        heavy.look(1, 0);
        Check.answers("by its own weight, not that of the rough", 1980, () -> heavy.polished(0, 6));
    }

    // "6 its price, NONE without a grade" (promise 20)
    private static void noPriceWithoutAGrade() {
        DiamondBook book = Books.ofGem(1000, 0);
        Check.answers("no look", NONE, () -> book.polished(0, 6));
        book.look(0, 0);
        Check.answers("one look", NONE, () -> book.polished(0, 6));
        book.scale(1, 1);
        book.look(1, 0);
        Check.answers("two unlike", NONE, () -> book.polished(0, 6));
        book.look(2, 0);
        Check.answers("three", 600 * 40, () -> book.polished(0, 6));
    }

    // "papers of a pit, together, cover at most what came of it"
    private static void papersCoverAtMostWhatCame() {
        DiamondBook book = Books.ofStones(100, 100, 100, 100);
        book.parcel(1);
        book.stone(1, 120, 0, 0, 0);
        for (int stone = 0; stone < 5; stone++) {
            book.cut(stone);
        }
        Check.answers("60 of 120", 60, () -> book.paper(0, 1));
        book.recut(1, 59);
        Check.answers("59 of 60", 1, () -> book.paper(1, 1));
        book.recut(2, 2);
        Check.isThrown(Check.STATE, "2 of 1", () -> book.paper(2, 1));
        Check.answers("no paper", NONE, () -> book.polished(2, 7));
        Check.answers("covered", 119, () -> book.all(4));
        book.recut(2, 1);
        Check.answers("1 of 1", 0, () -> book.paper(2, 1));
        book.recut(3, 1);
        Check.isThrown(Check.STATE, "1 of none", () -> book.paper(3, 1));
        Check.answers("but of another pit", 399, () -> book.paper(3, 0));

        DiamondBook all = Books.ofStones(100, 100);
        all.parcel(2);
        all.stone(1, 60, 0, 0, 0);
        all.cut(0);
        all.cut(1);
        Check.answers("60 of 60 at once", 0, () -> all.paper(0, 2));
        all.recut(1, 59);
        Check.isThrown(Check.STATE, "59 of none", () -> all.paper(1, 2));
        DiamondBook less = Books.ofStones(100);
        less.parcel(2);
        less.stone(1, 59, 0, 0, 0);
        less.cut(0);
        Check.isThrown(Check.STATE, "60 of 59", () -> less.paper(0, 2));
    }

    // "in all parcels"
    private static void whatCameInAllParcels() {
        DiamondBook book = Books.ofStones(100);
        book.parcel(3);
        book.parcel(2);
        book.parcel(3);
        book.cut(0);
        Check.isThrown(Check.STATE, "parcels without stones", () -> book.paper(0, 3));
        book.stone(1, 30, 0, 0, 0);
        book.stone(2, 900, 0, 0, 0);
        Check.isThrown(Check.STATE, "60 of 30", () -> book.paper(0, 3));
        book.stone(3, 29, 0, 0, 0);
        Check.isThrown(Check.STATE, "60 of 59", () -> book.paper(0, 3));
        book.stone(3, 12, 0, 0, 0);
        Check.answers("60 of 71", 11, () -> book.paper(0, 3));
    }

    // "what came of it": cut or not, sold or not
    private static void whatCameIsNotWhatIsPolished() {
        DiamondBook book = new DiamondBook();
        book.parcel(0);
        book.stone(0, 100, 0, 0, 0b000001000000);
        book.stone(0, 40, 0, 0, 0);
        book.cut(0);
        Check.answers("30 of 140", 110, () -> book.paper(0, 0));
        book.tender(1, 0);
        book.bid(0, 1);
        book.close();
        Check.answers("24 of 110", 86, () -> book.paper(1, 0));
        book.cut(1);
        Check.answers("24 of 86", 62, () -> book.paper(2, 0));
    }

    // "A paper of a pit covers a weight": each of the pits 0 to 3
    private static void eachPitIsItsOwn() {
        DiamondBook book = new DiamondBook();
        for (int pit = 0; pit < 4; pit++) {
            book.parcel(pit);
            book.stone(pit, 100 + pit, 0, 0, 0);
            book.cut(pit);
        }
        for (int pit = 0; pit < 4; pit++) {
            int gem = 3 - pit;
            Check.same("left of " + pit, book.paper(gem, pit), 100 + pit - book.polished(gem, 1));
            Check.same("its pit", book.polished(gem, 7), pit);
        }
        DiamondBook one = Books.ofGem(100, 0);
        for (int wrong : new int[] {-1, 4}) {
            Check.isThrown(Check.INDEX, "pit " + wrong, () -> one.paper(0, wrong));
        }
        for (int wrong : new int[] {-1, 1}) {
            Check.isThrown(Check.INDEX, "polished " + wrong, () -> one.paper(wrong, 0));
        }
    }

    // "It is given to a polished stone, once"
    private static void givenOnce() {
        DiamondBook book = Books.ofGem(100, 0);
        book.parcel(1);
        book.stone(1, 900, 0, 0, 0);
        book.paper(0, 0);
        Check.isThrown(Check.STATE, "of the same pit", () -> book.paper(0, 0));
        Check.isThrown(Check.STATE, "of another", () -> book.paper(0, 1));
        book.recut(0, 1);
        Check.isThrown(Check.STATE, "for a lesser weight", () -> book.paper(0, 0));
        Check.answers("its pit", 0, () -> book.polished(0, 7));
        Check.answers("covered", 60, () -> book.all(4));
    }

    // "for its weight as it is then"
    private static void forItsWeightAsItIsThen() {
        DiamondBook book = Books.ofStones(100, 100);
        book.cut(0);
        book.cut(1);
        book.recut(0, 50);
        Check.answers("recut before", 150, () -> book.paper(0, 0));
        book.recut(0, 10);
        Check.answers("recut behind", 50, () -> book.all(4));
        Check.answers("the next one", 90, () -> book.paper(1, 0));
        Check.answers("both", 110, () -> book.all(4));
    }

    // "The true origin is the pit of the parcel of its rough one."
    private static void theTrueOrigin() {
        DiamondBook book = new DiamondBook();
        int[] pits = {3, 1, 3, 0, 2};
        for (int parcel = 0; parcel < pits.length; parcel++) {
            book.parcel(pits[parcel]);
        }
        for (int stone = 0; stone < pits.length; stone++) {
            book.stone(pits.length - 1 - stone, 100, 0, 0, 0);
            book.cut(stone);
            Check.same("origin", book.polished(stone, 8), pits[pits.length - 1 - stone]);
        }
        book.paper(0, 3);
        Check.answers("whatever the paper says", 2, () -> book.polished(0, 8));
        Check.answers("the paper's", 3, () -> book.polished(0, 7));
    }

    // "5 how many papers are of another pit than the true one" (promise 24)
    private static void papersOfAnotherPit() {
        DiamondBook book = Books.ofStones(100, 100, 100);
        book.parcel(3);
        book.stone(1, 900, 0, 0, 0);
        for (int stone = 0; stone < 4; stone++) {
            book.cut(stone);
        }
        Check.answers("no papers", 0, () -> book.all(5));
        book.paper(0, 0);
        Check.answers("a true one", 0, () -> book.all(5));
        book.paper(1, 3);
        Check.answers("one of another", 1, () -> book.all(5));
        book.paper(3, 3);
        Check.answers("a true one of the other", 1, () -> book.all(5));
        book.paper(2, 3);
        Check.answers("two of another", 2, () -> book.all(5));
    }

    private static String sums(DiamondBook book) {
        return Books.row(6, book::all);
    }

    // "No parcels and stones." (promise 1)
    private static void eachSumOfAnEmptyBook() {
        DiamondBook book = new DiamondBook();
        Check.same("a new object", sums(book), "0 0 0 0 0 0");
        book.parcel(0);
        Check.same("an empty parcel", sums(book), "0 0 0 0 0 0");
        for (int wrong : new int[] {-1, 6}) {
            Check.isThrown(Check.ARGUMENT, "all(" + wrong + ")", () -> book.all(wrong));
        }
    }

    // "0 what came, 1 what is rough, SOLD or not, 2 what is polished, 3 dust, 4 what papers cover,
    // 5 how many papers are of another pit than the true one" (promise 24)
    private static void eachSumOfAllWeights() {
        DiamondBook book = Books.ofSorted(100, 100, 100);
        book.parcel(1);
        book.stone(1, 400, 0, 0, 0b000001000000);
        Check.same("here", sums(book), "700 700 0 0 0 0");
        book.boxes(3);
        book.take(0, true);
        book.take(1, false);
        Check.same("sold, here and in a box", sums(book), "700 700 0 0 0 0");
        book.cut(0);
        Check.same("a sold one cut", sums(book), "700 600 60 40 0 0");
        book.cut(3);
        // 6 cells: 200, of that 120; 5 cells: 166, of that 99.
        Check.same("another cut", sums(book), "700 200 279 221 0 0");
        book.recut(1, 100);
        Check.same("one recut", sums(book), "700 200 259 241 0 0");
        book.paper(0, 0);
        book.paper(1, 0);
        Check.same("papers", sums(book), "700 200 259 241 160 1");
        book.recut(0, 1);
        Check.same("recut behind", sums(book), "700 200 200 300 160 1");
        DiamondBook most = new DiamondBook();
        most.parcel(0);
        for (int stone = 0; stone < 40; stone++) {
            most.stone(0, 9999, 0, 0, 0);
            most.cut(stone);
        }
        Check.same("the most of all", sums(most), "399960 0 239960 160000 0 0");
    }
}
