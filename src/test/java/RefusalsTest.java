/**
 * Each sentence of promises 2 to 24 that begins with 'Throws', and from the terms: "if several
 * apply, the one that it lists first is thrown", "A call that throws changes nothing."
 */
public final class RefusalsTest {
    private static final String INDEX = Check.INDEX;
    private static final String ARGUMENT = Check.ARGUMENT;
    private static final String STATE = Check.STATE;
    private static final int FAR = Integer.MAX_VALUE;
    private static final int DEEP = Integer.MIN_VALUE;

    /** The stones of the busy book, by what is with them. */
    private static final int CUT_ONE = 0, SOLD_ONE = 1, BOXED_ONE = 2, DOUBTFUL_ONE = 3,
        TENDERED_ONE = 4, FULLY_SORTED_ONE = 5, FLAWED_ONE = 6;
    private static final int PARCELS = 2, STONES = 7, GEMS = 3;
    /** Its polished stones: with a grade and a paper, with one look, and of weight 1. */
    private static final int GRADED = 0, LOOKED_AT = 1, LEAST = 2;
    /** Its buyers: with a box, with an empty one, and with none. */
    private static final int WITH_BOX = 1, WITH_EMPTY_BOX = 2, WITHOUT_BOX = 4;

    private interface Scene {
        void set(DiamondBook book);
    }

    private interface CallOn {
        long on(DiamondBook book);
    }

    public static void main(String[] args) {
        theBusyBookIsAsTold();
        parcel();
        stone();
        drift();
        sort();
        price();
        value();
        stoneIs();
        boxes();
        boxValue();
        offered();
        take();
        tender();
        bid();
        close();
        plan();
        planAnew();
        cut();
        recut();
        polished();
        scale();
        look();
        paper();
        all();
        Check.end();
    }

    // ---- how a refused call is looked at

    /** Two books with the same scene: the one that refuses a call must tell the same behind it. */
    private static void refuses(Scene scene, String exception, String what, CallOn call) {
        DiamondBook twin = new DiamondBook();
        scene.set(twin);
        DiamondBook book = new DiamondBook();
        scene.set(book);
        Check.isThrown(exception, what, () -> call.on(book));
        Check.same("all that is told after " + what, Telling.of(book), Telling.of(twin));
    }

    private static void refuses(String exception, String what, CallOn call) {
        refuses(RefusalsTest::busy, exception, what, call);
    }

    /** The first ones beyond, the last of all numbers, and some that are right if cut short. */
    private static int[] beyond(int least, int most) {
        return new int[] {least - 1, most + 1, DEEP, FAR, DEEP + most, least + 256, least + 65536};
    }

    private static int[] noneOf(int count) {
        return beyond(0, count - 1);
    }

    // ---- scenes

    private static void busy(DiamondBook book) {
        book.parcel(1);
        book.parcel(2);
        book.stone(0, 1200, 0, 5, 0b000001000000);
        book.stone(1, 60, 4, 4, 0);
        book.stone(1, 70, 4, 4, 0);
        book.stone(0, 80, 4, 4, 0);
        book.stone(0, 90, 4, 4, 0);
        book.stone(0, 95, 4, 4, 0);
        book.stone(1, 12, 0, 0, 0b111111111001);
        book.drift(1, 2);
        book.drift(2, -1);
        book.price(0, 8, 1300);
        book.scale(1, 1);
        book.scale(2, -1);
        book.cut(CUT_ONE);
        book.cut(FLAWED_ONE);
        book.look(1, GRADED);
        book.look(0, GRADED);
        book.look(2, GRADED);
        book.look(1, LOOKED_AT);
        book.paper(GRADED, 1);
        boxed(book);
        book.sort(0, DOUBTFUL_ONE);
        book.sort(1, DOUBTFUL_ONE);
        book.tender(TENDERED_ONE, 20);
        book.bid(3, 40);
        book.bid(1, 30);
    }

    private static void boxed(DiamondBook book) {
        book.sort(0, SOLD_ONE);
        book.boxes(1);
        book.take(0, true);
        book.sort(0, BOXED_ONE);
        book.sort(0, FULLY_SORTED_ONE);
        book.sort(1, FULLY_SORTED_ONE);
        book.sort(2, FULLY_SORTED_ONE);
        book.boxes(3);
        book.take(0, false);
    }

    private static void theBusyBookIsAsTold() {
        DiamondBook book = new DiamondBook();
        busy(book);
        Check.same("how the stones are", Books.stones(book, STONES, 0), "3 2 1 0 0 0 3");
        Check.same("doubtful", Books.stones(book, STONES, 2), "0 0 0 1 0 0 0");
        Check.same("the boxes", Books.stones(book, STONES, 4), "-1 -1 1 -1 -1 -1 -1");
        Check.same("the offers", Books.offers(book), "-1 1 2 -1 -1");
        Check.same("a grade", book.polished(GRADED, 5), 5);
        Check.same("no grade", book.polished(LOOKED_AT, 5), -1);
        Check.same("the least weight", book.polished(LEAST, 1), 1);
        Check.isThrown(INDEX, "no polished stone more", () -> book.polished(GEMS, 0));
        Check.isThrown(INDEX, "no stone more", () -> book.value(STONES));
        Check.isThrown(INDEX, "no box more", () -> book.boxValue(3));
    }

    private static void fresh(DiamondBook book) {
        Check.same("what came", book.all(0), 0);
    }

    private static void fullOfParcels(DiamondBook book) {
        for (int parcel = 0; parcel < 12; parcel++) {
            book.parcel(parcel % 4);
        }
    }

    private static void fullOfStones(DiamondBook book) {
        book.parcel(3);
        for (int stone = 0; stone < 40; stone++) {
            book.stone(0, 20 + stone, 1, 1, 0);
        }
    }

    /** 78 polished stones, and then uncut ones of 3, 2, 1 and no parts; the first is tendered. */
    private static void nearlyFullOfGems(DiamondBook book) {
        book.parcel(0);
        int threeParts = 0b000010001000;
        for (int stone = 0; stone < 26; stone++) {
            book.stone(0, 100, 0, 0, threeParts);
            book.cut(stone);
        }
        book.stone(0, 100, 0, 0, threeParts);
        book.stone(0, 100, 0, 0, 0b000001000000);
        book.stone(0, 100, 0, 0, 0);
        book.stone(0, 100, 0, 0, 4095);
        book.tender(26, 5);
        book.bid(2, 9);
    }

    private static void fullOfGems(DiamondBook book) {
        nearlyFullOfGems(book);
        book.cut(27);
    }

    // ---- promises 2 to 8

    private static void parcel() {
        for (int pit : noneOf(4)) {
            refuses(INDEX, "parcel(" + pit + ")", book -> book.parcel(pit));
            refuses(RefusalsTest::fullOfParcels, INDEX, "a 13th parcel(" + pit + ")",
                book -> book.parcel(pit));
        }
        for (int number = 0; number < 4; number++) {
            int pit = number;
            refuses(RefusalsTest::fullOfParcels, STATE, "a 13th parcel of pit " + pit,
                book -> book.parcel(pit));
        }
    }

    private static void stone() {
        for (int parcel : noneOf(PARCELS)) {
            refuses(INDEX, "stone of no parcel", book -> book.stone(parcel, 12, 0, 0, 0));
            refuses(INDEX, "no parcel, all wrong", book -> book.stone(parcel, 11, 10, 10, 4096));
        }
        refuses(RefusalsTest::fresh, INDEX, "without parcels", book -> book.stone(0, 12, 0, 0, 0));
        refuses(RefusalsTest::fullOfParcels, INDEX, "parcel 12",
            book -> book.stone(12, 12, 0, 0, 0));
        wrongStones(RefusalsTest::busy, "");
        wrongStones(RefusalsTest::fullOfStones, "a 41st ");
        refuses(RefusalsTest::fullOfStones, STATE, "a 41st stone",
            book -> book.stone(0, 12, 0, 0, 0));
        refuses(RefusalsTest::fullOfStones, INDEX, "a 41st of no parcel",
            book -> book.stone(1, 12, 0, 0, 0));
        refuses(RefusalsTest::fullOfStones, INDEX, "a 41st, all wrong",
            book -> book.stone(1, 10000, -1, -1, -1));
    }

    private static void wrongStones(Scene scene, String which) {
        for (int weight : beyond(12, 9999)) {
            if (weight < 12 || weight > 9999) {
                refuses(scene, ARGUMENT, which + "weight " + weight,
                    book -> book.stone(0, weight, 0, 0, 0));
            }
        }
        for (int letter : beyond(0, 9)) {
            refuses(scene, ARGUMENT, which + "colour " + letter,
                book -> book.stone(0, 12, letter, 9, 0));
            refuses(scene, ARGUMENT, which + "clarity " + letter,
                book -> book.stone(0, 12, 9, letter, 0));
        }
        for (int flaws : new int[] {-1, 4096, DEEP, FAR, DEEP + 4095}) {
            refuses(scene, ARGUMENT, which + "flaws " + flaws,
                book -> book.stone(0, 9999, 0, 0, flaws));
        }
    }

    private static void drift() {
        for (int sorter : noneOf(4)) {
            refuses(INDEX, "drift(" + sorter + ", 0)", book -> book.drift(sorter, 0));
            refuses(INDEX, "drift(" + sorter + ", 3)", book -> book.drift(sorter, 3));
        }
        for (int drift : beyond(-2, 2)) {
            for (int number = 0; number < 4; number++) {
                int sorter = number;
                refuses(ARGUMENT, "drift(" + sorter + ", " + drift + ")",
                    book -> book.drift(sorter, drift));
            }
        }
    }

    private static void sort() {
        for (int sorter : noneOf(4)) {
            refuses(INDEX, "sort(" + sorter + ", here)", book -> book.sort(sorter, TENDERED_ONE));
            refuses(INDEX, "sort(" + sorter + ", cut)", book -> book.sort(sorter, CUT_ONE));
            refuses(INDEX, "sort(" + sorter + ", full)",
                book -> book.sort(sorter, FULLY_SORTED_ONE));
        }
        for (int stone : noneOf(STONES)) {
            refuses(INDEX, "sort(0, " + stone + ")", book -> book.sort(0, stone));
            refuses(INDEX, "sort(4, " + stone + ")", book -> book.sort(4, stone));
        }
        for (int number = 0; number < 4; number++) {
            int sorter = number;
            refuses(STATE, "sort, in a box", book -> book.sort(sorter, BOXED_ONE));
            refuses(STATE, "sort, sold", book -> book.sort(sorter, SOLD_ONE));
            refuses(STATE, "sort, cut", book -> book.sort(sorter, CUT_ONE));
            refuses(STATE, "sort, by three", book -> book.sort(sorter, FULLY_SORTED_ONE));
        }
        refuses(STATE, "sort, by the first again", book -> book.sort(0, DOUBTFUL_ONE));
        refuses(STATE, "sort, by the second again", book -> book.sort(1, DOUBTFUL_ONE));
    }

    private static void price() {
        for (int size : noneOf(4)) {
            refuses(INDEX, "price(" + size + ", 0, 1)", book -> book.price(size, 0, 1));
            refuses(INDEX, "price(" + size + ", 0, 0)", book -> book.price(size, 0, 0));
        }
        for (int quality : noneOf(19)) {
            refuses(INDEX, "price(0, " + quality + ", 1)", book -> book.price(0, quality, 1));
            refuses(INDEX, "price(3, " + quality + ", 1)", book -> book.price(3, quality, 1));
            refuses(INDEX, "price(1, " + quality + ", -1)", book -> book.price(1, quality, -1));
        }
        for (int price : new int[] {0, -1, 100000, DEEP, FAR, DEEP + 1}) {
            refuses(ARGUMENT, "price(0, 0, " + price + ")", book -> book.price(0, 0, price));
            refuses(ARGUMENT, "price(3, 18, " + price + ")", book -> book.price(3, 18, price));
        }
    }

    private static void value() {
        for (int stone : noneOf(STONES)) {
            refuses(INDEX, "value(" + stone + ")", book -> book.value(stone));
        }
        refuses(RefusalsTest::fullOfStones, INDEX, "value(40)", book -> book.value(40));
        refuses(RefusalsTest::fresh, INDEX, "value(0) of none", book -> book.value(0));
    }

    private static void stoneIs() {
        for (int stone : noneOf(STONES)) {
            refuses(INDEX, "stoneIs(" + stone + ", 0)", book -> book.stoneIs(stone, 0));
            refuses(INDEX, "stoneIs(" + stone + ", 7)", book -> book.stoneIs(stone, 7));
        }
        for (int what : beyond(0, 6)) {
            refuses(ARGUMENT, "stoneIs(0, " + what + ")", book -> book.stoneIs(0, what));
            refuses(INDEX, "stoneIs(7, " + what + ")", book -> book.stoneIs(STONES, what));
        }
        refuses(RefusalsTest::fullOfStones, INDEX, "stoneIs(40, 0)", book -> book.stoneIs(40, 0));
    }

    // ---- promises 9 to 15

    private static void boxes() {
        for (int boxes : beyond(1, 5)) {
            refuses(ARGUMENT, "boxes(" + boxes + ")", book -> book.boxes(boxes));
            refuses(RefusalsTest::fresh, ARGUMENT, "boxes(" + boxes + ") of none",
                book -> book.boxes(boxes));
        }
    }

    private static void boxValue() {
        for (int box : noneOf(3)) {
            refuses(INDEX, "boxValue(" + box + ")", book -> book.boxValue(box));
        }
        for (int box : new int[] {-1, 0, 4, 5}) {
            refuses(RefusalsTest::fresh, INDEX, "boxValue(" + box + ") without boxes",
                book -> book.boxValue(box));
        }
        refuses(book -> book.boxes(5), INDEX, "boxValue(5) of 5", book -> book.boxValue(5));
        refuses(book -> {
            book.boxes(5);
            book.boxes(1);
        }, INDEX, "a box of those that were made before", book -> book.boxValue(1));
    }

    private static void offered() {
        for (int buyer : noneOf(5)) {
            refuses(INDEX, "offered(" + buyer + ")", book -> book.offered(buyer));
        }
    }

    private static void take() {
        for (boolean isTaken : new boolean[] {true, false}) {
            for (int buyer : noneOf(5)) {
                refuses(INDEX, "take(" + buyer + ")", book -> book.take(buyer, isTaken));
            }
            refuses(STATE, "without a box", book -> book.take(WITHOUT_BOX, isTaken));
            refuses(STATE, "refused before", book -> book.take(0, isTaken));
            refuses(book -> {
                busy(book);
                book.take(WITH_BOX, true);
                book.take(WITH_EMPTY_BOX, true);
            }, STATE, "taken before", book -> book.take(WITH_BOX, isTaken));
            refuses(book -> {
                busy(book);
                book.take(WITH_BOX, true);
                book.take(WITH_EMPTY_BOX, true);
            }, STATE, "empty, taken before", book -> book.take(WITH_EMPTY_BOX, isTaken));
            for (int number = 0; number < 5; number++) {
                int buyer = number;
                refuses(RefusalsTest::fresh, STATE, "before there are boxes",
                    book -> book.take(buyer, isTaken));
            }
        }
    }

    private static long tendered(DiamondBook book, int stone, int reserve) {
        book.tender(stone, reserve);
        return 0;
    }

    private static void busyWithoutTender(DiamondBook book) {
        busy(book);
        book.close();
    }

    private static void tender() {
        Scene noneOn = RefusalsTest::busyWithoutTender;
        for (int stone : noneOf(STONES)) {
            refuses(INDEX, "one is on: no stone", book -> tendered(book, stone, 0));
            refuses(noneOn, INDEX, "no stone", book -> tendered(book, stone, 0));
            refuses(noneOn, INDEX, "no stone, reserve -1", book -> tendered(book, stone, -1));
        }
        for (int reserve : new int[] {-1, 1000000, DEEP, FAR, DEEP + 1}) {
            refuses(ARGUMENT, "one is on: reserve " + reserve,
                book -> tendered(book, DOUBTFUL_ONE, reserve));
            refuses(noneOn, ARGUMENT, "reserve " + reserve,
                book -> tendered(book, DOUBTFUL_ONE, reserve));
            refuses(noneOn, ARGUMENT, "cut, reserve " + reserve,
                book -> tendered(book, CUT_ONE, reserve));
        }
        for (int stone : new int[] {CUT_ONE, SOLD_ONE, BOXED_ONE, TENDERED_ONE}) {
            refuses(noneOn, STATE, "not here: tender " + stone, book -> tendered(book, stone, 0));
        }
        for (int stone : new int[] {DOUBTFUL_ONE, TENDERED_ONE, FULLY_SORTED_ONE, CUT_ONE}) {
            refuses(STATE, "one is on: tender " + stone, book -> tendered(book, stone, 0));
        }
    }

    private static void bid() {
        Scene noneOn = RefusalsTest::busyWithoutTender;
        for (int buyer : noneOf(5)) {
            refuses(INDEX, "bid(" + buyer + ", 1)", book -> book.bid(buyer, 1));
            refuses(INDEX, "bid(" + buyer + ", 0)", book -> book.bid(buyer, 0));
            refuses(noneOn, INDEX, "none is on: bid(" + buyer + ", 0)",
                book -> book.bid(buyer, 0));
        }
        for (int money : new int[] {0, -1, 1000000, DEEP, FAR, DEEP + 1}) {
            refuses(ARGUMENT, "bid(3, " + money + ")", book -> book.bid(3, money));
            refuses(ARGUMENT, "bid(4, " + money + ")", book -> book.bid(4, money));
            refuses(noneOn, ARGUMENT, "none is on: bid(3, " + money + ")",
                book -> book.bid(3, money));
        }
        for (int number = 0; number < 5; number++) {
            int buyer = number;
            refuses(noneOn, STATE, "none is on", book -> book.bid(buyer, 1));
            refuses(RefusalsTest::fresh, STATE, "none was on yet", book -> book.bid(buyer, 999999));
        }
    }

    private static void close() {
        refuses(RefusalsTest::fresh, STATE, "close, none was on yet", book -> book.close());
        refuses(RefusalsTest::busyWithoutTender, STATE, "close again", book -> book.close());
    }

    // ---- promises 16 to 20

    private static void plan() {
        for (int stone : noneOf(STONES)) {
            refuses(INDEX, "plan(" + stone + ")", book -> book.plan(stone));
        }
        refuses(RefusalsTest::fullOfStones, INDEX, "plan(40)", book -> book.plan(40));
    }

    private static void planAnew() {
        for (int stone : noneOf(STONES)) {
            refuses(INDEX, "planAnew(" + stone + ")", book -> book.planAnew(stone));
        }
        refuses(RefusalsTest::fullOfStones, INDEX, "planAnew(40)", book -> book.planAnew(40));
    }

    private static void cut() {
        for (int stone : noneOf(STONES)) {
            refuses(INDEX, "cut(" + stone + ")", book -> book.cut(stone));
        }
        refuses(RefusalsTest::fullOfStones, INDEX, "cut(40)", book -> book.cut(40));
        refuses(STATE, "cut, in a box", book -> book.cut(BOXED_ONE));
        refuses(STATE, "cut again", book -> book.cut(CUT_ONE));
        refuses(RefusalsTest::nearlyFullOfGems, STATE, "81 by 78 and 3", book -> book.cut(26));
        refuses(RefusalsTest::fullOfGems, STATE, "83 by 80 and 3", book -> book.cut(26));
        refuses(RefusalsTest::fullOfGems, STATE, "81 by 80 and 1", book -> book.cut(28));
        refuses(book -> {
            nearlyFullOfGems(book);
            book.cut(28);
        }, STATE, "81 by 79 and 2", book -> book.cut(27));
    }

    private static void recut() {
        for (int gem : noneOf(GEMS)) {
            refuses(INDEX, "recut(" + gem + ", 1)", book -> book.recut(gem, 1));
            refuses(INDEX, "recut(" + gem + ", 0)", book -> book.recut(gem, 0));
        }
        // 6 cells of 1200 weigh 600, of that 360.
        for (int weight : new int[] {360, 361, 0, -1, DEEP, FAR, DEEP + 1}) {
            refuses(ARGUMENT, "recut(0, " + weight + ")", book -> book.recut(GRADED, weight));
        }
        for (int weight : new int[] {1, 2, 0, -1, DEEP, FAR}) {
            refuses(ARGUMENT, "of weight 1: recut " + weight, book -> book.recut(LEAST, weight));
        }
        refuses(RefusalsTest::fullOfGems, INDEX, "recut(80, 1)", book -> book.recut(80, 1));
    }

    private static void polished() {
        for (int gem : noneOf(GEMS)) {
            refuses(INDEX, "polished(" + gem + ", 0)", book -> book.polished(gem, 0));
            refuses(INDEX, "polished(" + gem + ", 9)", book -> book.polished(gem, 9));
        }
        for (int what : beyond(0, 8)) {
            refuses(ARGUMENT, "polished(0, " + what + ")", book -> book.polished(GRADED, what));
            refuses(INDEX, "polished(3, " + what + ")", book -> book.polished(GEMS, what));
        }
        refuses(RefusalsTest::fullOfGems, INDEX, "polished(80, 0)", book -> book.polished(80, 0));
    }

    // ---- promises 21 to 24

    private static void scale() {
        for (int lab : noneOf(3)) {
            refuses(INDEX, "scale(" + lab + ", 0)", book -> book.scale(lab, 0));
            refuses(INDEX, "scale(" + lab + ", 2)", book -> book.scale(lab, 2));
        }
        for (int scale : beyond(-1, 1)) {
            for (int number = 0; number < 3; number++) {
                int lab = number;
                refuses(ARGUMENT, "scale(" + lab + ", " + scale + ")",
                    book -> book.scale(lab, scale));
            }
        }
    }

    private static void look() {
        for (int lab : noneOf(3)) {
            refuses(INDEX, "look(" + lab + ", least)", book -> book.look(lab, LEAST));
            refuses(INDEX, "look(" + lab + ", graded)", book -> book.look(lab, GRADED));
        }
        for (int gem : noneOf(GEMS)) {
            refuses(INDEX, "look(0, " + gem + ")", book -> book.look(0, gem));
            refuses(INDEX, "look(3, " + gem + ")", book -> book.look(3, gem));
        }
        refuses(STATE, "looked at", book -> book.look(1, LOOKED_AT));
        for (int number = 0; number < 3; number++) {
            int lab = number;
            refuses(STATE, "graded by three", book -> book.look(lab, GRADED));
            refuses(book -> {
                busy(book);
                book.scale(0, 1);
                book.look(0, LOOKED_AT);
            }, STATE, "graded by two", book -> book.look(lab, LOOKED_AT));
        }
        refuses(RefusalsTest::fullOfGems, INDEX, "look(0, 80)", book -> book.look(0, 80));
    }

    private static void paper() {
        for (int gem : noneOf(GEMS)) {
            refuses(INDEX, "paper(" + gem + ", 1)", book -> book.paper(gem, 1));
            refuses(INDEX, "paper(" + gem + ", 4)", book -> book.paper(gem, 4));
        }
        for (int pit : noneOf(4)) {
            refuses(INDEX, "paper(least, " + pit + ")", book -> book.paper(LEAST, pit));
            refuses(INDEX, "has one: paper(0, " + pit + ")", book -> book.paper(GRADED, pit));
        }
        for (int number = 0; number < 4; number++) {
            int pit = number;
            refuses(STATE, "has one, of pit " + pit, book -> book.paper(GRADED, pit));
        }
        refuses(STATE, "nothing came of pit 0", book -> book.paper(LEAST, 0));
        // Of pit 2 came 60, 70 and 12: less than the 300 of 5 cells of 1200.
        refuses(STATE, "too much of pit 2", book -> book.paper(LOOKED_AT, 2));
        refuses(RefusalsTest::fullOfGems, INDEX, "paper(80, 0)", book -> book.paper(80, 0));
    }

    private static void all() {
        for (int what : beyond(0, 5)) {
            refuses(ARGUMENT, "all(" + what + ")", book -> book.all(what));
        }
    }
}
