import java.util.Arrays;

/** Rough diamonds from the pit to the ring: sorted, boxed, tendered, cut, graded and papered. */
public final class DiamondBook {
    /** There is none; the house. */
    public static final int NONE = -1;
    /** How stones are. */
    public static final int HERE = 0, BOX = 1, SOLD = 2, CUT = 3;

    private static final int PITS = 4;
    private static final int MOST_PARCELS = 12;
    private static final int MOST_STONES = 40;
    private static final int LIGHTEST = 12;
    private static final int HEAVIEST = 9999;
    private static final int WORST_LETTER = 9;
    private static final int CELLS = 12;
    private static final int ALL_CELLS = 4095;

    private static final int SORTERS = 4;
    private static final int WIDEST_DRIFT = 2;
    private static final int SIZES = 4;
    private static final int QUALITIES = 19;
    private static final int HIGHEST_PRICE = 99999;

    private static final int MOST_BOXES = 5;
    private static final int BUYERS = 5;
    private static final int FIRST_CONDUCT = 50;
    private static final int BEST_CONDUCT = 100;
    private static final int HIGHEST_MONEY = 999999;

    private static final int MOST_POLISHED = 80;
    private static final int LABS = 3;
    private static final int WIDEST_SCALE = 1;

    private final int[] parcelPits = new int[MOST_PARCELS];
    private int parcelCount;
    private final Rough[] roughs = new Rough[MOST_STONES];
    private int roughCount;
    private final int[] drifts = new int[SORTERS];
    private final PriceBook book = new PriceBook();

    private final int[] conducts = new int[BUYERS];
    private final int[] offers = new int[BUYERS];
    private final int[] boxSums = new int[MOST_BOXES];
    private int boxCount;
    private final Tender sale = new Tender();

    private final Gem[] gems = new Gem[MOST_POLISHED];
    private int gemCount;
    private int dust;
    private final int[] scales = new int[LABS];
    private final int[] came = new int[PITS];
    private final int[] covered = new int[PITS];

    public DiamondBook() {
        Arrays.fill(conducts, FIRST_CONDUCT);
        Arrays.fill(offers, NONE);
    }

    // ---- stones and sorting

    public int parcel(int pit) throws IndexOutOfBoundsException, IllegalStateException {
        needIndex(pit, PITS);
        if (!isIn(parcelCount, parcelPits.length)) {
            throw new IllegalStateException("there are as many parcels as there can be");
        }
        int number = parcelCount;
        parcelPits[number] = pit;
        parcelCount++;
        return number;
    }

    public int stone(int parcel, int weight, int colour, int clarity, int flaws)
            throws IndexOutOfBoundsException, IllegalArgumentException, IllegalStateException {
        needIndex(parcel, parcelCount);
        needRange(weight, LIGHTEST, HEAVIEST);
        needRange(colour, 0, WORST_LETTER);
        needRange(clarity, 0, WORST_LETTER);
        needRange(flaws, 0, ALL_CELLS);
        if (!isIn(roughCount, roughs.length)) {
            throw new IllegalStateException("there are as many stones as there can be");
        }
        int number = roughCount;
        int pit = pitOf(parcel);
        roughs[number] = new Rough(number, parcel, pit, weight, colour, clarity, flaws);
        roughCount++;
        addTo(came, pit, weight);
        return number;
    }

    public int drift(int sorter, int drift)
            throws IndexOutOfBoundsException, IllegalArgumentException {
        needIndex(sorter, drifts.length);
        needRange(drift, -WIDEST_DRIFT, WIDEST_DRIFT);
        int before = drifts[sorter];
        drifts[sorter] = drift;
        return before;
    }

    public int sort(int sorter, int stone) throws IndexOutOfBoundsException, IllegalStateException {
        needIndex(sorter, drifts.length);
        Rough rough = knownStone(stone);
        if (rough.state != HERE || rough.sorts.isFull() || rough.sorts.isBy(sorter)) {
            throw new IllegalStateException("the stone is not here to be sorted by this sorter");
        }
        int told = within(rough.colour + rough.clarity + drifts[sorter], 0, QUALITIES - 1);
        rough.sorts.add(sorter, told);
        return told;
    }

    public int price(int size, int quality, int price)
            throws IndexOutOfBoundsException, IllegalArgumentException {
        needIndex(size, SIZES);
        needIndex(quality, QUALITIES);
        needRange(price, 1, HIGHEST_PRICE);
        int before = book.caratPrice(size, quality);
        book.setCaratPrice(size, quality, price);
        return before;
    }

    public int value(int stone) throws IndexOutOfBoundsException {
        return book.worthOf(knownStone(stone));
    }

    public int stoneIs(int stone, int what)
            throws IndexOutOfBoundsException, IllegalArgumentException {
        Rough rough = knownStone(stone);
        switch (what) {
            case 0:
                return rough.state;
            case 1:
                return rough.quality();
            case 2:
                return rough.isDoubtful() ? 1 : 0;
            case 3:
                return rough.owner;
            case 4:
                return rough.box;
            case 5:
                return rough.lot;
            case 6:
                return rough.paid;
            default:
                throw new IllegalArgumentException("a stone has no such thing to tell");
        }
    }

    // ---- boxes

    public int boxes(int boxes) throws IllegalArgumentException {
        needRange(boxes, 1, MOST_BOXES);
        openBoxes();
        boxCount = boxes;
        int boxed = fillBoxes();
        offerBoxes();
        return boxed;
    }

    public int boxValue(int box) throws IndexOutOfBoundsException {
        needIndex(box, boxCount);
        if (!isOffered(box)) {
            return NONE;
        }
        int sum = 0;
        for (Rough rough : roughs) {
            if (rough != null && rough.box == box) {
                sum += book.worthOf(rough);
            }
        }
        return sum;
    }

    public int offered(int buyer) throws IndexOutOfBoundsException {
        needIndex(buyer, offers.length);
        return offers[buyer];
    }

    public int take(int buyer, boolean isTaken)
            throws IndexOutOfBoundsException, IllegalStateException {
        needIndex(buyer, offers.length);
        int box = offers[buyer];
        if (box == NONE) {
            throw new IllegalStateException("no box is offered to the buyer");
        }
        for (Rough rough : roughs) {
            if (rough != null && rough.box == box) {
                rough.leaveBox();
                if (isTaken) {
                    rough.sellTo(buyer);
                }
            }
        }
        offers[buyer] = NONE;
        return changeConduct(buyer, isTaken ? 5 : -10);
    }

    // ---- tenders

    public void tender(int stone, int reserve)
            throws IndexOutOfBoundsException, IllegalArgumentException, IllegalStateException {
        Rough rough = knownStone(stone);
        needRange(reserve, 0, HIGHEST_MONEY);
        if (rough.state != HERE || sale.isOn()) {
            throw new IllegalStateException("the stone is not here, or a tender is on");
        }
        sale.begin(rough, reserve);
    }

    public int bid(int buyer, int money)
            throws IndexOutOfBoundsException, IllegalArgumentException, IllegalStateException {
        needIndex(buyer, BUYERS);
        needRange(money, 1, HIGHEST_MONEY);
        if (!sale.isOn()) {
            throw new IllegalStateException("no tender is on");
        }
        int before = sale.bidOf(buyer);
        sale.setBid(buyer, money);
        return before;
    }

    public int close() throws IllegalStateException {
        Rough rough = sale.rough;
        if (rough == null) {
            throw new IllegalStateException("no tender is on");
        }
        int winner = tenderWinner();
        if (winner != NONE) {
            rough.paid = sale.paymentOf(winner);
            rough.sellTo(winner);
        }
        sale.end();
        return winner;
    }

    // ---- cuts

    public int plan(int stone) throws IndexOutOfBoundsException {
        int flaws = knownStone(stone).flaws;
        int worth = 0;
        for (int cell = 0; cell < CELLS; cell++) {
            int cells = plannedAt(flaws, cell);
            worth += cells * cells;
        }
        return worth;
    }

    public int planAnew(int stone) throws IndexOutOfBoundsException {
        int flaws = knownStone(stone).flaws;
        int best = 0;
        for (int left = 0; left <= ALL_CELLS; left++) {
            if ((left & flaws) == flaws) {
                best = Math.max(best, worthBetween(left));
            }
        }
        return best;
    }

    public int cut(int stone) throws IndexOutOfBoundsException, IllegalStateException {
        Rough rough = knownStone(stone);
        if (rough.state == BOX || rough.state == CUT) {
            throw new IllegalStateException("the stone is in a box, or cut");
        }
        int count = plannedCount(rough.flaws);
        if (gemCount + count > MOST_POLISHED) {
            throw new IllegalStateException("there would be too many polished stones");
        }
        dust += rough.weight;
        for (int cell = 0; cell < CELLS; cell++) {
            int cells = plannedAt(rough.flaws, cell);
            if (cells > 0) {
                keepGem(new Gem(rough, cell, cells));
            }
        }
        rough.state = CUT;
        endTenderOf(rough);
        return count;
    }

    public int recut(int polished, int weight)
            throws IndexOutOfBoundsException, IllegalArgumentException {
        Gem gem = knownGem(polished);
        needRange(weight, 1, gem.weight - 1);
        int lost = gem.weight - weight;
        gem.weight = weight;
        dust += lost;
        return lost;
    }

    public int polished(int polished, int what)
            throws IndexOutOfBoundsException, IllegalArgumentException {
        Gem gem = knownGem(polished);
        switch (what) {
            case 0:
                return gem.rough;
            case 1:
                return gem.weight;
            case 2:
                return gem.firstCell;
            case 3:
                return gem.cells;
            case 4:
                return gem.owner;
            case 5:
                return gem.grade();
            case 6:
                return gem.gradedPrice();
            case 7:
                return gem.paperPit;
            case 8:
                return gem.origin;
            default:
                throw new IllegalArgumentException("a polished stone has no such thing to tell");
        }
    }

    // ---- labs and papers

    public int scale(int lab, int scale)
            throws IndexOutOfBoundsException, IllegalArgumentException {
        needIndex(lab, scales.length);
        needRange(scale, -WIDEST_SCALE, WIDEST_SCALE);
        int before = scales[lab];
        scales[lab] = scale;
        return before;
    }

    public int look(int lab, int polished) throws IndexOutOfBoundsException, IllegalStateException {
        needIndex(lab, scales.length);
        Gem gem = knownGem(polished);
        if (gem.looks.isBy(lab) || gem.grade() != NONE) {
            throw new IllegalStateException("the lab has looked at it, or it has a grade");
        }
        int told = within(gem.clarity + scales[lab], 0, WORST_LETTER);
        gem.looks.add(lab, told);
        return told;
    }

    public int paper(int polished, int pit)
            throws IndexOutOfBoundsException, IllegalStateException {
        Gem gem = knownGem(polished);
        needIndex(pit, covered.length);
        int left = came[pit] - covered[pit] - gem.weight;
        if (gem.paperPit != NONE || left < 0) {
            throw new IllegalStateException("it has a paper, or papers would cover too much");
        }
        gem.paperPit = pit;
        covered[pit] += gem.weight;
        return left;
    }

    public int all(int what) throws IllegalArgumentException {
        switch (what) {
            case 0:
                return sumOf(came);
            case 1:
                return roughWeight();
            case 2:
                return polishedWeight();
            case 3:
                return dust;
            case 4:
                return sumOf(covered);
            case 5:
                return wrongPapers();
            default:
                throw new IllegalArgumentException("there is no such weight of all");
        }
    }

    // ---- what is asked of arguments

    private static boolean isIn(int index, int count) {
        return index >= 0 && index < count;
    }

    private static void needIndex(int index, int count) {
        if (!isIn(index, count)) {
            throw new IndexOutOfBoundsException("there is none of this number");
        }
    }

    private static void needRange(int number, int least, int most) {
        if (number < least || number > most) {
            throw new IllegalArgumentException("an argument is out of range");
        }
    }

    private static int within(int number, int least, int most) {
        return Math.max(least, Math.min(most, number));
    }

    private Rough knownStone(int stone) {
        Rough rough = isIn(stone, roughs.length) ? roughs[stone] : null;
        if (rough == null) {
            throw new IndexOutOfBoundsException("there is no such stone");
        }
        return rough;
    }

    private Gem knownGem(int polished) {
        Gem gem = isIn(polished, gems.length) ? gems[polished] : null;
        if (gem == null) {
            throw new IndexOutOfBoundsException("there is no such polished stone");
        }
        return gem;
    }

    // ---- parts of sums

    private int pitOf(int parcel) {
        return isIn(parcel, parcelPits.length) ? parcelPits[parcel] : NONE;
    }

    private static void addTo(int[] sums, int index, int more) {
        if (isIn(index, sums.length)) {
            sums[index] += more;
        }
    }

    private static int sumOf(int[] parts) {
        int sum = 0;
        for (int part : parts) {
            sum += part;
        }
        return sum;
    }

    private int roughWeight() {
        int sum = 0;
        for (Rough rough : roughs) {
            if (rough != null && rough.state != CUT) {
                sum += rough.weight;
            }
        }
        return sum;
    }

    private int polishedWeight() {
        int sum = 0;
        for (Gem gem : gems) {
            if (gem != null) {
                sum += gem.weight;
            }
        }
        return sum;
    }

    private int wrongPapers() {
        int count = 0;
        for (Gem gem : gems) {
            if (gem != null && gem.paperPit != NONE && gem.paperPit != gem.origin) {
                count++;
            }
        }
        return count;
    }

    // ---- making and offering boxes

    private void openBoxes() {
        for (Rough rough : roughs) {
            if (rough != null && rough.state == BOX) {
                rough.leaveBox();
            }
        }
        Arrays.fill(offers, NONE);
        Arrays.fill(boxSums, 0);
    }

    private int fillBoxes() {
        int boxed = 0;
        while (boxed < MOST_STONES) {
            Rough next = dearestToBox();
            if (next == null) {
                break;
            }
            int box = poorestBox();
            addTo(boxSums, box, book.worthOf(next));
            next.enterBox(box);
            endTenderOf(next);
            boxed++;
        }
        return boxed;
    }

    /** The stone that is put into a box next; null if there is none left. */
    private Rough dearestToBox() {
        Rough dearest = null;
        for (Rough rough : roughs) {
            if (rough != null && rough.canBeBoxed()
                    && (dearest == null || book.worthOf(rough) > book.worthOf(dearest))) {
                dearest = rough;
            }
        }
        return dearest;
    }

    private int poorestBox() {
        int poorest = 0;
        for (int box = 1; box < boxCount && box < boxSums.length; box++) {
            if (boxSums[box] < boxSums[poorest]) {
                poorest = box;
            }
        }
        return poorest;
    }

    private void offerBoxes() {
        for (int turn = 0; turn < boxCount; turn++) {
            int buyer = bestFreeBuyer();
            int box = richestFreeBox();
            if (isIn(buyer, offers.length)) {
                offers[buyer] = box;
            }
        }
    }

    private int bestFreeBuyer() {
        int best = NONE;
        for (int buyer = 0; buyer < BUYERS; buyer++) {
            if (offers[buyer] == NONE && (best == NONE || conducts[buyer] > conducts[best])) {
                best = buyer;
            }
        }
        return best;
    }

    private int richestFreeBox() {
        int richest = NONE;
        for (int box = 0; box < boxCount && box < boxSums.length; box++) {
            if (!isOffered(box) && (richest == NONE || boxSums[box] > boxSums[richest])) {
                richest = box;
            }
        }
        return richest;
    }

    /** A box is offered from when it is made until it is gone. */
    private boolean isOffered(int box) {
        for (int offer : offers) {
            if (offer == box) {
                return true;
            }
        }
        return false;
    }

    private int changeConduct(int buyer, int more) {
        if (!isIn(buyer, conducts.length)) {
            return NONE;
        }
        conducts[buyer] = within(conducts[buyer] + more, 0, BEST_CONDUCT);
        return conducts[buyer];
    }

    // ---- the tender

    private void endTenderOf(Rough rough) {
        if (sale.rough == rough) {
            sale.end();
        }
    }

    private int tenderWinner() {
        int winner = NONE;
        for (int buyer = 0; buyer < BUYERS; buyer++) {
            // Who has not bid counts as NONE, which is below every reserve.
            if (sale.bidOf(buyer) >= sale.reserve && (winner == NONE || outbids(buyer, winner))) {
                winner = buyer;
            }
        }
        return winner;
    }

    private boolean outbids(int buyer, int other) {
        int bid = sale.bidOf(buyer);
        int otherBid = sale.bidOf(other);
        if (bid != otherBid || !isIn(buyer, conducts.length) || !isIn(other, conducts.length)) {
            return bid > otherBid;
        }
        return conducts[buyer] > conducts[other];
    }

    // ---- the plan of a cut

    private static boolean isClear(int marked, int cell) {
        return (marked >> cell & 1) == 0;
    }

    /**
     * How many cells the planned stone has that begins at this cell; 0 if none begins there.
     * To leave out a cell without a flaw never pays, as (a + b + 1) squared is more than a squared
     * and b squared: so the plan, the only one of its worth, is each whole run without flaws.
     */
    private static int plannedAt(int flaws, int cell) {
        if (cell > 0 && isClear(flaws, cell - 1)) {
            return 0;
        }
        int end = cell;
        while (end < CELLS && isClear(flaws, end)) {
            end++;
        }
        return worthwhile(end - cell);
    }

    private static int plannedCount(int flaws) {
        int count = 0;
        for (int cell = 0; cell < CELLS; cell++) {
            if (plannedAt(flaws, cell) > 0) {
                count++;
            }
        }
        return count;
    }

    /** One cell alone is no polished stone. */
    private static int worthwhile(int cells) {
        return cells >= 2 ? cells : 0;
    }

    private static int worthBetween(int left) {
        int worth = 0;
        int cells = 0;
        for (int cell = 0; cell < CELLS; cell++) {
            if (isClear(left, cell)) {
                cells++;
            } else {
                worth += worthwhile(cells) * cells;
                cells = 0;
            }
        }
        return worth + worthwhile(cells) * cells;
    }

    private void keepGem(Gem gem) {
        if (isIn(gemCount, gems.length)) {
            gems[gemCount] = gem;
            gemCount++;
            dust -= gem.weight;
        }
    }

    /** What up to three tellers said of one thing. */
    private static final class Opinions {
        private int tellers;
        private int count;
        private int first;
        private int second;
        private int third;

        boolean isBy(int teller) {
            return (tellers >> teller & 1) != 0;
        }

        boolean isFull() {
            return count >= 3;
        }

        void add(int teller, int told) {
            tellers |= 1 << teller;
            if (count == 0) {
                first = told;
            } else if (count == 1) {
                second = told;
            } else {
                third = told;
            }
            count++;
        }

        int middle() {
            int less = Math.min(first, second);
            int more = Math.max(first, second);
            return Math.max(less, Math.min(more, third));
        }
    }

    private static final class Rough {
        private final int number;
        private final int lot;
        private final int pit;
        private final int weight;
        private final int colour;
        private final int clarity;
        private final int flaws;
        private final Opinions sorts = new Opinions();
        private int state = HERE;
        private int owner = NONE;
        private int box = NONE;
        private int paid;

        Rough(int number, int lot, int pit, int weight, int colour, int clarity, int flaws) {
            this.number = number;
            this.lot = lot;
            this.pit = pit;
            this.weight = weight;
            this.colour = colour;
            this.clarity = clarity;
            this.flaws = flaws;
        }

        int size() {
            if (weight < 100) {
                return 0;
            }
            if (weight < 300) {
                return 1;
            }
            return weight < 1000 ? 2 : 3;
        }

        int quality() {
            switch (sorts.count) {
                case 0:
                    return NONE;
                case 1:
                    return sorts.first;
                case 2:
                    return Math.max(sorts.first, sorts.second);
                default:
                    return sorts.middle();
            }
        }

        boolean isDoubtful() {
            return sorts.count == 2 && Math.abs(sorts.first - sorts.second) >= 2;
        }

        boolean canBeBoxed() {
            return state == HERE && sorts.count > 0 && !isDoubtful();
        }

        void enterBox(int number) {
            state = BOX;
            box = number;
        }

        void leaveBox() {
            state = HERE;
            box = NONE;
        }

        void sellTo(int buyer) {
            state = SOLD;
            owner = buyer;
        }
    }

    /** What a carat costs, of each size and quality. */
    private static final class PriceBook {
        private final int[] caratPrices = new int[SIZES * QUALITIES];

        PriceBook() {
            for (int i = 0; i < caratPrices.length; i++) {
                caratPrices[i] = 100 * (i / QUALITIES + 1) * (20 - i % QUALITIES);
            }
        }

        int caratPrice(int size, int quality) {
            int place = size * QUALITIES + quality;
            return isIn(place, caratPrices.length) ? caratPrices[place] : 0;
        }

        void setCaratPrice(int size, int quality, int price) {
            int place = size * QUALITIES + quality;
            if (isIn(place, caratPrices.length)) {
                caratPrices[place] = price;
            }
        }

        /** NONE if the stone was not sorted. */
        int worthOf(Rough rough) {
            int quality = rough.quality();
            if (quality == NONE) {
                return NONE;
            }
            return rough.weight * caratPrice(rough.size(), quality) / 100;
        }
    }

    /** The one tender that can be on, with the last bid of each buyer. */
    private static final class Tender {
        private Rough rough;
        private int reserve;
        private final int[] bids = new int[BUYERS];

        boolean isOn() {
            return rough != null;
        }

        void begin(Rough tendered, int least) {
            rough = tendered;
            reserve = least;
            Arrays.fill(bids, NONE);
        }

        void end() {
            rough = null;
        }

        int bidOf(int buyer) {
            return isIn(buyer, bids.length) ? bids[buyer] : NONE;
        }

        void setBid(int buyer, int money) {
            if (isIn(buyer, bids.length)) {
                bids[buyer] = money;
            }
        }

        int paymentOf(int winner) {
            int payment = reserve;
            for (int buyer = 0; buyer < bids.length; buyer++) {
                if (buyer != winner) {
                    payment = Math.max(payment, bids[buyer]);
                }
            }
            return payment;
        }
    }

    /** A polished stone; what it has of its rough one changes no more once that is cut. */
    private static final class Gem {
        private final int rough;
        private final int clarity;
        private final int origin;
        private final int owner;
        private final int firstCell;
        private final int cells;
        private final Opinions looks = new Opinions();
        private int weight;
        private int paperPit = NONE;

        Gem(Rough from, int firstCell, int cells) {
            this.rough = from.number;
            this.clarity = from.clarity;
            this.origin = from.pit;
            this.owner = from.owner;
            this.firstCell = firstCell;
            this.cells = cells;
            this.weight = cells * from.weight / CELLS * 60 / 100;
        }

        int grade() {
            if (looks.count >= 2 && looks.first == looks.second) {
                return looks.first;
            }
            return looks.isFull() ? looks.middle() : NONE;
        }

        int gradedPrice() {
            int grade = grade();
            if (grade == NONE) {
                return NONE;
            }
            int once = weight * (20 - grade);
            return weight >= 100 ? 2 * once : once;
        }
    }
}
