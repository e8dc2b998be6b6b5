/** Books that the tests of the edges begin with, and rows of what these tell. */
final class Books {
    private Books() {
    }

    /** One parcel of pit 0; a stone of each weight, of colour and clarity 0, without flaws. */
    static DiamondBook ofStones(int... weights) {
        DiamondBook book = new DiamondBook();
        book.parcel(0);
        for (int weight : weights) {
            book.stone(0, weight, 0, 0, 0);
        }
        return book;
    }

    /** The same, each sorted by sorter 0: below 100 each 1 of the weight is worth 20. */
    static DiamondBook ofSorted(int... weights) {
        DiamondBook book = ofStones(weights);
        for (int stone = 0; stone < weights.length; stone++) {
            book.sort(0, stone);
        }
        return book;
    }

    /** One parcel of pit 0; a stone of this weight for each set of flaws. */
    static DiamondBook ofFlaws(int weight, int... flaws) {
        DiamondBook book = new DiamondBook();
        book.parcel(0);
        for (int set : flaws) {
            book.stone(0, weight, 0, 0, set);
        }
        return book;
    }

    /** One polished stone of pit 0, of 12 cells, with 60 hundredths of this weight. */
    static DiamondBook ofGem(int weight, int clarity) {
        DiamondBook book = new DiamondBook();
        book.parcel(0);
        book.stone(0, weight, 0, clarity, 0);
        book.cut(0);
        return book;
    }

    interface Told {
        int of(int number);
    }

    /** What 0, 1, and so on tell. */
    static String row(int count, Told told) {
        StringBuilder row = new StringBuilder();
        for (int number = 0; number < count; number++) {
            row.append(number == 0 ? "" : " ").append(told.of(number));
        }
        return row.toString();
    }

    /** What stones 0, 1, and so on tell of one thing. */
    static String stones(DiamondBook book, int count, int what) {
        return row(count, stone -> book.stoneIs(stone, what));
    }

    /** What the five buyers are offered. */
    static String offers(DiamondBook book) {
        return row(5, book::offered);
    }

    /** The conduct of a buyer who takes, or refuses, a box of so many makings. */
    static int conductAfter(DiamondBook book, int buyer, boolean isTaken, int times) {
        int conduct = DiamondBook.NONE;
        for (int time = 0; time < times; time++) {
            book.boxes(5);
            conduct = book.take(buyer, isTaken);
        }
        return conduct;
    }
}
