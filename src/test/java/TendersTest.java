/** Promises 13 to 15: tenders, bids, and who wins. */
public final class TendersTest {
    public static void main(String[] args) {
        onlyOneStoneHereIsTendered();
        aTenderIsAskedInOrder();
        theLastBidCounts();
        theHighestBidWins();
        conductParts();
        boxesAndCutsEndATender();
        Check.end();
    }

    private static DiamondBook withStones(int stones) {
        DiamondBook book = new DiamondBook();
        book.parcel(0);
        for (int stone = 0; stone < stones; stone++) {
            book.stone(0, 50, 0, 0, 0);
        }
        return book;
    }

    private static void onlyOneStoneHereIsTendered() {
        DiamondBook book = withStones(4);
        book.sort(0, 0);
        book.boxes(1);
        Check.isThrownBy(Check.STATE, "in a box", () -> book.tender(0, 0));
        book.take(0, true);
        Check.isThrownBy(Check.STATE, "sold", () -> book.tender(0, 0));
        book.cut(1);
        Check.isThrownBy(Check.STATE, "cut", () -> book.tender(1, 0));
        Check.isThrown(Check.STATE, "none is on", () -> book.close());
        book.tender(2, 0);
        Check.isThrownBy(Check.STATE, "one is on", () -> book.tender(3, 0));
        Check.isThrownBy(Check.STATE, "it is on", () -> book.tender(2, 0));
        Check.answers("here still", DiamondBook.HERE, () -> book.stoneIs(2, 0));
        Check.answers("nobody wins", -1, () -> book.close());
        Check.answers("here then", DiamondBook.HERE, () -> book.stoneIs(2, 0));
        Check.isThrown(Check.STATE, "none is on then", () -> book.close());
        book.tender(2, 0);
        Check.answers("again", -1, () -> book.close());
    }

    private static void aTenderIsAskedInOrder() {
        DiamondBook book = withStones(2);
        for (int wrong : new int[] {-1, 1000000, Integer.MAX_VALUE, Integer.MIN_VALUE}) {
            Check.isThrownBy(Check.ARGUMENT, "reserve " + wrong, () -> book.tender(0, wrong));
            Check.isThrownBy(Check.INDEX, "no stone, reserve " + wrong,
                () -> book.tender(2, wrong));
        }
        Check.isThrownBy(Check.INDEX, "tender(-1, 0)", () -> book.tender(-1, 0));
        Check.isThrown(Check.STATE, "none is on", () -> book.bid(0, 1));
        Check.isThrown(Check.ARGUMENT, "none is on, no money", () -> book.bid(0, 0));
        Check.isThrown(Check.INDEX, "none is on, no buyer", () -> book.bid(5, 1));
        book.tender(0, 999999);
        Check.isThrownBy(Check.ARGUMENT, "one is on, wrong reserve", () -> book.tender(1, -1));
        Check.isThrownBy(Check.INDEX, "one is on, no stone", () -> book.tender(2, 0));
        for (int wrong : new int[] {0, -1, 1000000, Integer.MAX_VALUE, Integer.MIN_VALUE}) {
            Check.isThrown(Check.ARGUMENT, "bid " + wrong, () -> book.bid(0, wrong));
            Check.isThrown(Check.INDEX, "no buyer, bid " + wrong, () -> book.bid(5, wrong));
        }
        Check.isThrown(Check.INDEX, "bid(-1, 1)", () -> book.bid(-1, 1));
        Check.answers("none before", -1, () -> book.bid(0, 999999));
        Check.answers("close()", 0, () -> book.close());
        Check.answers("paid", 999999, () -> book.stoneIs(0, 6));
    }

    private static void theLastBidCounts() {
        DiamondBook book = withStones(2);
        book.tender(0, 10);
        Check.answers("none before", -1, () -> book.bid(1, 500));
        Check.answers("the one before", 500, () -> book.bid(1, 20));
        Check.answers("none of the other before", -1, () -> book.bid(2, 30));
        Check.answers("the last one", 20, () -> book.bid(1, 5));
        Check.answers("close()", 2, () -> book.close());
        Check.answers("the reserve is more", 10, () -> book.stoneIs(0, 6));
        book.tender(1, 0);
        Check.answers("bids of before are gone", -1, () -> book.bid(2, 30));
        Check.answers("close() then", 2, () -> book.close());
        Check.answers("no other bid, no reserve", 0, () -> book.stoneIs(1, 6));
        Check.answers("sold", DiamondBook.SOLD, () -> book.stoneIs(1, 0));
        Check.answers("the winner has it", 2, () -> book.stoneIs(1, 3));
    }

    /** Tenders a stone at a reserve, bids (0: does not bid), and tells winner and payment. */
    private static String won(int reserve, int... bids) {
        DiamondBook book = withStones(1);
        book.tender(0, reserve);
        for (int buyer = 0; buyer < bids.length; buyer++) {
            if (bids[buyer] > 0) {
                book.bid(buyer, bids[buyer]);
            }
        }
        return book.close() + " " + book.stoneIs(0, 6) + " " + book.stoneIs(0, 0) + " "
            + book.stoneIs(0, 3);
    }

    private static void theHighestBidWins() {
        Check.same("nobody bids", won(0), "-1 0 0 -1");
        Check.same("all below", won(10, 9, 8), "-1 0 0 -1");
        Check.same("just the reserve", won(10, 9, 10), "1 10 2 1");
        Check.same("the next highest is below", won(10, 9, 0, 20), "2 10 2 2");
        Check.same("the next highest", won(10, 15, 12, 20), "2 15 2 2");
        Check.same("the next highest is the reserve", won(10, 10, 12), "1 10 2 1");
        Check.same("the first is highest", won(1, 30, 29, 28, 27, 26), "0 29 2 0");
        Check.same("the last is highest", won(1, 26, 27, 28, 29, 30), "4 29 2 4");
        Check.same("two alike", won(1, 26, 30, 28, 30), "1 30 2 1");
        Check.same("all alike", won(5, 7, 7, 7, 7, 7), "0 7 2 0");
        Check.same("the least bid", won(0, 0, 0, 1), "2 0 2 2");
    }

    private static void conductParts() {
        DiamondBook book = withStones(2);
        book.boxes(5);
        book.take(0, false);
        book.take(3, true);
        book.take(4, true);
        book.tender(0, 0);
        for (int buyer = 0; buyer < 5; buyer++) {
            book.bid(buyer, 77);
        }
        Check.answers("more conduct, then the lowest", 3, () -> book.close());
        Check.answers("pays what the others bid", 77, () -> book.stoneIs(0, 6));
        book.tender(1, 0);
        book.bid(0, 78);
        book.bid(3, 77);
        Check.answers("more money before more conduct", 0, () -> book.close());
        book.boxes(5);
        Check.answers("a tender leaves conduct as it is", 60, () -> book.take(3, true));
    }

    private static void boxesAndCutsEndATender() {
        DiamondBook book = withStones(4);
        book.sort(0, 0);
        book.tender(0, 5);
        book.bid(0, 9);
        book.boxes(1);
        Check.isThrown(Check.STATE, "boxed: bid", () -> book.bid(0, 9));
        Check.isThrown(Check.STATE, "boxed: close", () -> book.close());
        Check.answers("boxed: no sale", 0, () -> book.stoneIs(0, 6));
        book.take(0, false);
        book.tender(1, 5);
        Check.answers("a new tender has no bids", -1, () -> book.bid(0, 9));
        book.boxes(1);
        Check.answers("another was boxed", 9, () -> book.bid(0, 8));
        book.cut(2);
        Check.answers("another was cut", 8, () -> book.bid(0, 7));
        book.cut(1);
        Check.isThrown(Check.STATE, "cut: close", () -> book.close());
        Check.answers("cut: the house has it", -1, () -> book.polished(1, 4));
        book.tender(3, 5);
        Check.answers("and a new one", -1, () -> book.close());
    }
}
