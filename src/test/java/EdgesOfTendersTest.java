/** The edges that the document names for tenders, bids, and who wins. */
public final class EdgesOfTendersTest {
    private static final int NONE = DiamondBook.NONE;
    private static final int MOST = 999999;

    public static void main(String[] args) {
        aStoneThatIsHere();
        oneAtATime();
        reservesFrom0To999999();
        moneyFrom1To999999();
        eachOfTheBuyersBids();
        theLastBidCounts();
        aLastBidBelowTheReserve();
        boxesEndATender();
        boxesOfOthersDoNotEndATender();
        cutsEndATender();
        cutsOfOthersDoNotEndATender();
        aBidNotBelowTheReserveWins();
        theHighestBidWins();
        ofSeveralTheOneWithMoreConduct();
        theConductOfTheClosing();
        thenTheLowest();
        theNextHighestOfTheOthersIsPaid();
        orTheReserveIfThatIsMore();
        nobodyWins();
        noneIsOn();
        Check.end();
    }

    private static DiamondBook tendered(int reserve) {
        DiamondBook book = Books.ofStones(50);
        book.tender(0, reserve);
        return book;
    }

    /** Winner, payment and how the stone is, by the bids of buyers 0, 1, and so on; 0 for none. */
    private static String won(int reserve, int... bids) {
        DiamondBook book = tendered(reserve);
        for (int buyer = 0; buyer < bids.length; buyer++) {
            if (bids[buyer] != 0) {
                book.bid(buyer, bids[buyer]);
            }
        }
        return book.close() + " " + book.stoneIs(0, 6) + " " + book.stoneIs(0, 0);
    }

    // "A stone that is HERE can be tendered": sorted or not, doubtful, refused, or not sold before
    private static void aStoneThatIsHere() {
        DiamondBook book = Books.ofStones(50, 50, 50, 50, 50);
        book.sort(0, 0);
        book.boxes(1);
        Check.isThrownBy(Check.STATE, "in a box", () -> book.tender(0, 0));
        book.take(0, false);
        book.tender(0, 0);
        Check.answers("refused before", NONE, () -> book.close());
        book.tender(0, 0);
        Check.answers("not sold before", NONE, () -> book.close());
        book.boxes(1);
        book.take(book.offered(1) == 0 ? 1 : 0, true);
        Check.isThrownBy(Check.STATE, "sold by a box", () -> book.tender(0, 0));
        book.drift(1, 2);
        book.sort(0, 1);
        book.sort(1, 1);
        book.tender(1, 0);
        Check.answers("doubtful", NONE, () -> book.close());
        book.tender(2, 0);
        book.bid(0, 1);
        Check.answers("not sorted", 0, () -> book.close());
        Check.isThrownBy(Check.STATE, "sold by a tender", () -> book.tender(2, 0));
        book.cut(3);
        Check.isThrownBy(Check.STATE, "cut", () -> book.tender(3, 0));
        book.tender(4, 0);
        Check.answers("after all those", NONE, () -> book.close());
    }

    // "one at a time"
    private static void oneAtATime() {
        DiamondBook book = Books.ofStones(50, 50);
        book.tender(0, 5);
        Check.isThrownBy(Check.STATE, "another", () -> book.tender(1, 7));
        Check.isThrownBy(Check.STATE, "the same", () -> book.tender(0, 7));
        book.bid(0, 6);
        Check.answers("by the first reserve", 0, () -> book.close());
        Check.same("paid", Books.stones(book, 2, 6), "5 0");
        book.tender(1, 7);
        Check.answers("then another", NONE, () -> book.close());
    }

    // "reserve: 0 to 999999" (promise 13)
    private static void reservesFrom0To999999() {
        DiamondBook book = Books.ofStones(50);
        for (int wrong : new int[] {-1, MOST + 1}) {
            Check.isThrownBy(Check.ARGUMENT, "reserve " + wrong, () -> book.tender(0, wrong));
        }
        Check.isThrown(Check.STATE, "none is on", () -> book.close());
        Check.same("the least", won(0, 1), "0 0 2");
        Check.same("the most, met", won(MOST, 0, MOST), "1 999999 2");
        Check.same("the most, missed", won(MOST, MOST - 1), "-1 0 0");
    }

    // "money: 1 to 999999" (promise 14)
    private static void moneyFrom1To999999() {
        DiamondBook book = tendered(0);
        for (int wrong : new int[] {0, -1, MOST + 1}) {
            Check.isThrown(Check.ARGUMENT, "bid of " + wrong, () -> book.bid(2, wrong));
        }
        Check.answers("no bid yet", NONE, () -> book.bid(2, 1));
        Check.isThrown(Check.ARGUMENT, "0 for 1", () -> book.bid(2, 0));
        Check.answers("the least", 1, () -> book.bid(2, MOST));
        Check.answers("the most", MOST, () -> book.bid(2, 1));
        Check.answers("close()", 2, () -> book.close());
    }

    // "Each buyer bids once or more": "the buyers, 0 to 4"
    private static void eachOfTheBuyersBids() {
        for (int buyer = 0; buyer < 5; buyer++) {
            DiamondBook book = tendered(3);
            Check.same("bid", book.bid(buyer, 4), NONE);
            Check.same("close()", book.close(), buyer);
            Check.same("who has it", book.stoneIs(0, 3), buyer);
            Check.same("how it is", book.stoneIs(0, 0), DiamondBook.SOLD);
        }
        DiamondBook book = tendered(3);
        Check.isThrown(Check.INDEX, "bid(-1, 4)", () -> book.bid(-1, 4));
        Check.isThrown(Check.INDEX, "bid(5, 4)", () -> book.bid(5, 4));
    }

    // "the last bid counting", "Returns the bid of that buyer before, NONE without." (promise 14)
    private static void theLastBidCounts() {
        DiamondBook book = tendered(0);
        Check.answers("the first", NONE, () -> book.bid(0, 90));
        Check.answers("the second", 90, () -> book.bid(0, 10));
        Check.answers("another's first", NONE, () -> book.bid(1, 50));
        Check.answers("the third", 10, () -> book.bid(0, 20));
        Check.answers("the same again", 20, () -> book.bid(0, 20));
        Check.answers("a greater bid of before is gone", 1, () -> book.close());
        Check.answers("so is it for the payment", 20, () -> book.stoneIs(0, 6));
        DiamondBook rising = tendered(0);
        rising.bid(0, 10);
        rising.bid(1, 50);
        rising.bid(0, 60);
        Check.answers("a greater last one", 0, () -> rising.close());
        Check.answers("paid", 50, () -> rising.stoneIs(0, 6));
    }

    // "the last bid counting", "not below the reserve"
    private static void aLastBidBelowTheReserve() {
        DiamondBook book = tendered(30);
        book.bid(3, 40);
        book.bid(3, 29);
        Check.answers("nobody", NONE, () -> book.close());
        DiamondBook two = tendered(30);
        two.bid(3, 40);
        two.bid(4, 31);
        two.bid(3, 29);
        Check.answers("the other", 4, () -> two.close());
        Check.answers("pays the reserve", 30, () -> two.stoneIs(0, 6));
    }

    // "it may be boxed [..] all the same, which ends the tender without a sale"
    private static void boxesEndATender() {
        DiamondBook book = Books.ofSorted(50, 60);
        book.tender(0, 5);
        book.bid(1, 9);
        Check.answers("both are boxed", 2, () -> book.boxes(1));
        Check.isThrown(Check.STATE, "no bid", () -> book.bid(1, 10));
        Check.isThrown(Check.STATE, "no close", () -> book.close());
        Check.same("no sale", Books.stones(book, 2, 3), "-1 -1");
        book.take(0, false);
        Check.isThrown(Check.STATE, "refused: it does not come back", () -> book.close());
        book.tender(0, 2);
        Check.answers("a new one has no bids of before", NONE, () -> book.bid(1, 2));
        Check.answers("nor a reserve of before", 1, () -> book.close());
        Check.same("paid", Books.stones(book, 2, 6), "2 0");
    }

    // the tender of a stone that is not put into a box goes on
    private static void boxesOfOthersDoNotEndATender() {
        DiamondBook book = Books.ofStones(50, 50);
        book.sort(0, 1);
        book.tender(0, 5);
        book.bid(1, 9);
        Check.answers("the other is boxed", 1, () -> book.boxes(2));
        book.take(0, true);
        Check.answers("the bid stands", 9, () -> book.bid(1, 8));
        book.drift(0, 2);
        book.sort(0, 0);
        book.sort(1, 0);
        Check.answers("doubtful", 0, () -> book.boxes(1));
        Check.answers("so it goes on", 1, () -> book.close());
        Check.answers("paid", 5, () -> book.stoneIs(0, 6));
    }

    // "or cut all the same, which ends the tender without a sale"
    private static void cutsEndATender() {
        DiamondBook book = Books.ofStones(50, 50);
        book.tender(0, 5);
        book.bid(1, 9);
        Check.answers("cut", 1, () -> book.cut(0));
        Check.isThrown(Check.STATE, "no bid", () -> book.bid(1, 10));
        Check.isThrown(Check.STATE, "no close", () -> book.close());
        Check.answers("the house had it", NONE, () -> book.stoneIs(0, 3));
        Check.answers("nothing was paid", 0, () -> book.stoneIs(0, 6));
        Check.answers("the house has it", NONE, () -> book.polished(0, 4));
        book.tender(1, 0);
        Check.answers("no bids of before", NONE, () -> book.close());
    }

    private static void cutsOfOthersDoNotEndATender() {
        DiamondBook book = Books.ofStones(50, 50);
        book.tender(0, 5);
        book.bid(1, 9);
        book.cut(1);
        Check.isThrown(Check.STATE, "cut again", () -> book.cut(1));
        Check.answers("it goes on", 1, () -> book.close());
    }

    // "the highest bid that is not below the reserve"
    private static void aBidNotBelowTheReserveWins() {
        Check.same("1 below", won(10, 0, 9), "-1 0 0");
        Check.same("just the reserve", won(10, 0, 10), "1 10 2");
        Check.same("1 more", won(10, 0, 11), "1 10 2");
        Check.same("the least of all", won(1, 0, 1), "1 1 2");
    }

    // "the highest bid [..] wins", for each buyer with the highest
    private static void theHighestBidWins() {
        for (int highest = 0; highest < 5; highest++) {
            int[] bids = {20, 20, 20, 20, 20};
            bids[highest] = 21;
            Check.same("the highest of five", won(1, bids), highest + " 20 2");
        }
        Check.same("falling", won(1, 5, 4, 3, 2, 1), "0 4 2");
        Check.same("rising", won(1, 1, 2, 3, 4, 5), "4 4 2");
        Check.same("the widest apart", won(1, 1, MOST), "1 1 2");
    }

    // "of several the one of the buyer with more conduct", for each two buyers
    private static void ofSeveralTheOneWithMoreConduct() {
        for (int better = 0; better < 5; better++) {
            for (int other = 0; other < 5; other++) {
                if (better == other) {
                    continue;
                }
                DiamondBook book = Books.ofStones(50, 50);
                book.boxes(5);
                book.take(better, true);
                book.tender(0, 0);
                book.bid(other, 7);
                book.bid(better, 7);
                Check.same("more conduct", book.close(), better);
                Check.same("pays the same", book.stoneIs(0, 6), 7);
                book.tender(1, 0);
                book.bid(other, 8);
                book.bid(better, 7);
                Check.same("more money", book.close(), other);
            }
        }
    }

    // the conduct is that of when the tender is closed
    private static void theConductOfTheClosing() {
        DiamondBook book = tendered(0);
        book.bid(0, 7);
        book.bid(1, 7);
        book.boxes(5);
        book.take(0, false);
        Check.answers("refused since", 1, () -> book.close());
        DiamondBook rising = tendered(0);
        rising.bid(0, 7);
        rising.bid(1, 7);
        rising.boxes(5);
        rising.take(1, true);
        Check.answers("taken since", 1, () -> rising.close());
    }

    // "then of the lowest"
    private static void thenTheLowest() {
        Check.same("five alike", won(0, 7, 7, 7, 7, 7), "0 7 2");
        Check.same("the last four", won(0, 0, 7, 7, 7, 7), "1 7 2");
        Check.same("the last two", won(0, 6, 6, 6, 7, 7), "3 7 2");
        Check.same("first and last", won(7, 7, 0, 0, 0, 7), "0 7 2");
        DiamondBook book = tendered(0);
        book.boxes(5);
        book.take(0, false);
        book.take(2, true);
        book.take(4, true);
        for (int buyer = 4; buyer >= 0; buyer--) {
            book.bid(buyer, 7);
        }
        Check.answers("of those with more conduct", 2, () -> book.close());
        DiamondBook least = tendered(0);
        Books.conductAfter(least, 0, false, 6);
        Books.conductAfter(least, 1, false, 5);
        least.bid(1, 7);
        least.bid(0, 7);
        Check.answers("both without conduct", 0, () -> least.close());
    }

    // "the winner pays the next highest one of the other buyers"
    private static void theNextHighestOfTheOthersIsPaid() {
        Check.same("of two", won(0, 9, 4), "0 4 2");
        Check.same("of five", won(0, 4, 8, 6, 7, 5), "1 7 2");
        Check.same("alike", won(0, 9, 9), "0 9 2");
        Check.same("next to the most", won(0, MOST, MOST - 1), "0 999998 2");
        DiamondBook book = tendered(0);
        book.bid(0, 50);
        book.bid(1, 20);
        book.bid(0, 60);
        Check.answers("close()", 0, () -> book.close());
        Check.answers("not the own one before", 20, () -> book.stoneIs(0, 6));
    }

    // "or the reserve, if that is more"
    private static void orTheReserveIfThatIsMore() {
        Check.same("no other", won(8, 9), "0 8 2");
        Check.same("no other, no reserve", won(0, 9), "0 0 2");
        Check.same("the other is 1 below", won(8, 9, 7), "0 8 2");
        Check.same("the other is the reserve", won(8, 9, 8), "0 8 2");
        Check.same("the other is 1 more", won(8, 10, 9), "0 9 2");
        Check.same("the most", won(MOST, MOST, MOST), "0 999999 2");
    }

    // "Returns the buyer who wins; NONE if nobody does." (promise 15)
    private static void nobodyWins() {
        DiamondBook book = tendered(2);
        Check.answers("nobody bids", NONE, () -> book.close());
        Check.same("here", Books.stones(book, 1, 0), "0");
        book.tender(0, 2);
        book.bid(0, 1);
        book.bid(4, 1);
        Check.answers("all are below", NONE, () -> book.close());
        Check.same("of the house", Books.stones(book, 1, 3), "-1");
        Check.same("without payment", Books.stones(book, 1, 6), "0");
        book.tender(0, 0);
        Check.answers("bids of before don't win", NONE, () -> book.close());
        book.sort(0, 0);
        Check.answers("it can be boxed", 1, () -> book.boxes(1));
    }

    // "if no tender is on" (promise 14), "if none is on" (promise 15)
    private static void noneIsOn() {
        DiamondBook book = Books.ofStones(50);
        Check.isThrown(Check.STATE, "bid before", () -> book.bid(0, 1));
        Check.isThrown(Check.STATE, "close before", () -> book.close());
        book.tender(0, 0);
        book.bid(0, 1);
        book.close();
        Check.isThrown(Check.STATE, "bid behind", () -> book.bid(0, 1));
        Check.isThrown(Check.STATE, "close behind", () -> book.close());
    }
}
