/**
 * All that an object holds, as a text: what can be asked for, and what shows only in later calls,
 * which this makes. At most 400 calls, as an object has 512.
 */
final class Telling {
    private static final int STONES = 7;
    private static final int GEMS = 4;

    private final DiamondBook book;
    private final StringBuilder text = new StringBuilder();

    private Telling(DiamondBook book) {
        this.book = book;
    }

    static String of(DiamondBook book) {
        Telling telling = new Telling(book);
        telling.stones();
        telling.gems();
        telling.boxesAndSums();
        telling.settings();
        telling.tender();
        telling.conducts();
        telling.opinions();
        telling.papers();
        telling.places();
        return telling.text.toString();
    }

    private void tell(String name, Check.Call call) {
        text.append(' ').append(name).append(Check.outcome(call));
    }

    private void stones() {
        for (int number = 0; number < STONES; number++) {
            int stone = number;
            tell(" stone", () -> book.value(stone));
            for (int what = 0; what <= 6; what++) {
                int asked = what;
                tell("", () -> book.stoneIs(stone, asked));
            }
        }
        for (int number = STONES; number < 40; number++) {
            int stone = number;
            tell("", () -> book.value(stone));
        }
    }

    private void gems() {
        for (int number = 0; number < 80; number++) {
            int gem = number;
            for (int what = 0; what <= (gem < GEMS ? 8 : 0); what++) {
                int asked = what;
                tell(asked == 0 ? " gem" : "", () -> book.polished(gem, asked));
            }
        }
    }

    private void boxesAndSums() {
        for (int number = 0; number < 5; number++) {
            int asked = number;
            tell("box", () -> book.boxValue(asked));
            tell("offer", () -> book.offered(asked));
        }
        for (int what = 0; what <= 5; what++) {
            int asked = what;
            tell("all", () -> book.all(asked));
        }
    }

    private void settings() {
        for (int number = 0; number < 4; number++) {
            int asked = number;
            tell("drift", () -> book.drift(asked, 0));
            tell("scale", () -> book.scale(Math.min(asked, 2), 0));
        }
        for (int place = 0; place < 4 * 19; place++) {
            int size = place / 19;
            int quality = place % 19;
            tell("price", () -> book.price(size, quality, 1));
        }
    }

    /** Who has bid what shows in the bids before, and the reserve in what is paid. */
    private void tender() {
        for (int number = 0; number < 5; number++) {
            int buyer = number;
            tell("bid", () -> book.bid(buyer, buyer == 4 ? 999999 : 1));
        }
        tell("close", () -> book.close());
        for (int number = 0; number < STONES; number++) {
            int stone = number;
            tell("paid", () -> book.stoneIs(stone, 6));
        }
    }

    private void conducts() {
        tell("boxes", () -> book.boxes(5));
        for (int number = 0; number < 5; number++) {
            int buyer = number;
            tell("conduct", () -> book.take(buyer, false));
        }
    }

    /** Who has sorted or looked shows in who may yet. */
    private void opinions() {
        for (int number = 0; number < STONES * 4; number++) {
            int stone = number / 4;
            int sorter = number % 4;
            tell("sort", () -> book.sort(sorter, stone));
        }
        for (int number = 0; number < GEMS * 3; number++) {
            int gem = number / 3;
            int lab = number % 3;
            tell("look", () -> book.look(lab, gem));
        }
    }

    private void papers() {
        for (int number = 0; number < GEMS * 4; number++) {
            int gem = number / 4;
            int pit = (number + gem) % 4;
            tell("paper", () -> book.paper(gem, pit));
        }
    }

    private void places() {
        tell("parcel", () -> book.parcel(0));
        tell("new stone", () -> book.stone(0, 12, 0, 0, 0));
    }
}
