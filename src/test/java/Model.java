import java.util.ArrayList;
import java.util.Arrays;
import java.util.Collections;
import java.util.Comparator;
import java.util.List;
import java.util.Map;
import java.util.TreeMap;

/** The document once more, in its own words and with the Java library, to compare with. */
final class Model {
    private static final class Stone {
        int parcel, weight, colour, clarity, flaws;
        int state = 0, owner = -1, box = -1, paid = 0;
        final Map<Integer, Integer> sorts = new TreeMap<>();
        final List<Integer> told = new ArrayList<>();
    }

    private static final class Polished {
        int rough, weight, first, cells, owner;
        int paper = -1, covered = 0;
        final List<Integer> labs = new ArrayList<>();
        final List<Integer> told = new ArrayList<>();
    }

    private final List<Integer> parcels = new ArrayList<>();
    private final List<Stone> stones = new ArrayList<>();
    private final List<Polished> gems = new ArrayList<>();
    private final Map<String, Integer> prices = new TreeMap<>();
    private final Map<Integer, Integer> offers = new TreeMap<>();
    private final Map<Integer, Integer> bids = new TreeMap<>();
    private final int[] drifts = new int[4];
    private final int[] scales = new int[3];
    private final int[] conduct = {50, 50, 50, 50, 50};
    private int madeLast = 0;
    private int tendered = -1;
    private int reserve = 0;

    private static void index(boolean isThere) {
        if (!isThere) {
            throw new IndexOutOfBoundsException();
        }
    }

    private static void argument(boolean isInRange) {
        if (!isInRange) {
            throw new IllegalArgumentException();
        }
    }

    private static void state(boolean isAllowed) {
        if (!isAllowed) {
            throw new IllegalStateException();
        }
    }

    private static boolean from(int least, int number, int most) {
        return least <= number && number <= most;
    }

    private Stone at(int stone) {
        index(from(0, stone, stones.size() - 1));
        return stones.get(stone);
    }

    private Polished gemAt(int polished) {
        index(from(0, polished, gems.size() - 1));
        return gems.get(polished);
    }

    int parcel(int pit) {
        index(from(0, pit, 3));
        state(parcels.size() < 12);
        parcels.add(pit);
        return parcels.size() - 1;
    }

    int stone(int parcel, int weight, int colour, int clarity, int flaws) {
        index(from(0, parcel, parcels.size() - 1));
        argument(from(12, weight, 9999) && from(0, colour, 9) && from(0, clarity, 9));
        argument(from(0, flaws, 4095));
        state(stones.size() < 40);
        Stone stone = new Stone();
        stone.parcel = parcel;
        stone.weight = weight;
        stone.colour = colour;
        stone.clarity = clarity;
        stone.flaws = flaws;
        stones.add(stone);
        return stones.size() - 1;
    }

    int drift(int sorter, int drift) {
        index(from(0, sorter, 3));
        argument(from(-2, drift, 2));
        int before = drifts[sorter];
        drifts[sorter] = drift;
        return before;
    }

    int sort(int sorter, int number) {
        index(from(0, sorter, 3));
        Stone stone = at(number);
        state(stone.state == 0 && !stone.sorts.containsKey(sorter) && stone.sorts.size() < 3);
        int quality = stone.colour + stone.clarity + drifts[sorter];
        quality = quality < 0 ? 0 : quality > 18 ? 18 : quality;
        stone.sorts.put(sorter, quality);
        stone.told.add(quality);
        return quality;
    }

    int price(int size, int quality, int price) {
        index(from(0, size, 3) && from(0, quality, 18));
        argument(from(1, price, 99999));
        int before = priceOf(size, quality);
        prices.put(size + "/" + quality, price);
        return before;
    }

    private int priceOf(int size, int quality) {
        return prices.getOrDefault(size + "/" + quality, (100 * size + 100) * (20 - quality));
    }

    private static int qualityOf(Stone stone) {
        if (stone.told.isEmpty()) {
            return -1;
        }
        List<Integer> rising = new ArrayList<>(stone.told);
        Collections.sort(rising);
        return rising.get(rising.size() == 1 ? 0 : 1);
    }

    private static boolean isDoubtful(Stone stone) {
        return stone.told.size() == 2
            && Collections.max(stone.told) - Collections.min(stone.told) > 1;
    }

    private int valueOf(Stone stone) {
        if (stone.told.isEmpty()) {
            return -1;
        }
        int size = stone.weight >= 1000 ? 3 : stone.weight >= 300 ? 2 : stone.weight >= 100 ? 1 : 0;
        return (int) ((long) stone.weight * priceOf(size, qualityOf(stone)) / 100);
    }

    int value(int stone) {
        return valueOf(at(stone));
    }

    int stoneIs(int number, int what) {
        Stone stone = at(number);
        argument(from(0, what, 6));
        int[] answers = {stone.state, qualityOf(stone), isDoubtful(stone) ? 1 : 0, stone.owner,
            stone.box, stone.parcel, stone.paid};
        return answers[what];
    }

    int boxes(int boxes) {
        argument(from(1, boxes, 5));
        for (Stone stone : stones) {
            if (stone.state == 1) {
                stone.state = 0;
                stone.box = -1;
            }
        }
        List<Stone> boxed = new ArrayList<>();
        for (Stone stone : stones) {
            if (stone.state == 0 && !stone.told.isEmpty() && !isDoubtful(stone)) {
                boxed.add(stone);
            }
        }
        boxed.sort(Comparator.comparingInt(stone -> -valueOf(stone)));
        int[] sums = new int[boxes];
        for (Stone stone : boxed) {
            int least = Arrays.stream(sums).min().getAsInt();
            stone.box = 0;
            while (sums[stone.box] != least) {
                stone.box++;
            }
            sums[stone.box] += valueOf(stone);
            stone.state = 1;
            if (tendered == stones.indexOf(stone)) {
                tendered = -1;
            }
        }
        List<Integer> buyers = new ArrayList<>(Arrays.asList(0, 1, 2, 3, 4));
        buyers.sort(Comparator.comparingInt(buyer -> -conduct[buyer]));
        List<Integer> numbers = new ArrayList<>();
        for (int box = 0; box < boxes; box++) {
            numbers.add(box);
        }
        numbers.sort(Comparator.comparingInt(box -> -sums[box]));
        offers.clear();
        for (int i = 0; i < boxes; i++) {
            offers.put(buyers.get(i), numbers.get(i));
        }
        madeLast = boxes;
        return boxed.size();
    }

    int boxValue(int box) {
        index(from(0, box, madeLast - 1));
        if (!offers.containsValue(box)) {
            return -1;
        }
        int sum = 0;
        for (Stone stone : stones) {
            sum += stone.state == 1 && stone.box == box ? valueOf(stone) : 0;
        }
        return sum;
    }

    int offered(int buyer) {
        index(from(0, buyer, 4));
        return offers.getOrDefault(buyer, -1);
    }

    int take(int buyer, boolean isTaken) {
        index(from(0, buyer, 4));
        state(offers.containsKey(buyer));
        int box = offers.remove(buyer);
        for (Stone stone : stones) {
            if (stone.state == 1 && stone.box == box) {
                stone.state = isTaken ? 2 : 0;
                stone.owner = isTaken ? buyer : -1;
                stone.box = -1;
            }
        }
        conduct[buyer] += isTaken ? 5 : -10;
        conduct[buyer] = conduct[buyer] > 100 ? 100 : conduct[buyer] < 0 ? 0 : conduct[buyer];
        return conduct[buyer];
    }

    void tender(int stone, int least) {
        Stone tender = at(stone);
        argument(from(0, least, 999999));
        state(tender.state == 0 && tendered == -1);
        tendered = stone;
        reserve = least;
        bids.clear();
    }

    int bid(int buyer, int money) {
        index(from(0, buyer, 4));
        argument(from(1, money, 999999));
        state(tendered != -1);
        Integer before = bids.put(buyer, money);
        return before == null ? -1 : before;
    }

    int close() {
        state(tendered != -1);
        Stone stone = stones.get(tendered);
        tendered = -1;
        List<Integer> buyers = new ArrayList<>(bids.keySet());
        buyers.removeIf(buyer -> bids.get(buyer) < reserve);
        if (buyers.isEmpty()) {
            return -1;
        }
        buyers.sort(Comparator.comparingInt((Integer buyer) -> -bids.get(buyer))
            .thenComparingInt(buyer -> -conduct[buyer]).thenComparingInt(buyer -> buyer));
        stone.paid = buyers.size() > 1 ? bids.get(buyers.get(1)) : reserve;
        stone.state = 2;
        stone.owner = buyers.get(0);
        return stone.owner;
    }

    /** Each part's first cell and its cells: the best of all ways to part the row. */
    int[][] planOf(int flaws) {
        int[][] best = new int[0][];
        for (int kept = 0; kept < 4096; kept++) {
            int[][] parts = partsOf(kept);
            if ((kept & flaws) == 0 && parts != null && isBetter(parts, best)) {
                best = parts;
            }
        }
        return best;
    }

    /** Null if a part would have one cell. */
    private static int[][] partsOf(int kept) {
        List<int[]> parts = new ArrayList<>();
        int cell = 0;
        while (cell < 12) {
            int next = cell;
            while (next < 12 && (kept >> next) % 2 == 1) {
                next++;
            }
            if (next == cell + 1) {
                return null;
            }
            if (next > cell) {
                parts.add(new int[] {cell, next - cell});
            }
            cell = next + 1;
        }
        return parts.toArray(new int[0][]);
    }

    private static boolean isBetter(int[][] parts, int[][] others) {
        if (worthOf(parts) != worthOf(others)) {
            return worthOf(parts) > worthOf(others);
        }
        if (parts.length != others.length) {
            return parts.length < others.length;
        }
        for (int i = 0; i < parts.length; i++) {
            if (parts[i][0] != others[i][0]) {
                return parts[i][0] < others[i][0];
            }
            if (parts[i][1] != others[i][1]) {
                return parts[i][1] > others[i][1];
            }
        }
        return false;
    }

    private static int worthOf(int[][] parts) {
        int worth = 0;
        for (int[] part : parts) {
            worth += part[1] * part[1];
        }
        return worth;
    }

    int plan(int stone) {
        return worthOf(planOf(at(stone).flaws));
    }

    int planAnew(int stone) {
        return plan(stone);
    }

    int cut(int number) {
        Stone stone = at(number);
        state(stone.state == 0 || stone.state == 2);
        int[][] parts = planOf(stone.flaws);
        state(gems.size() + parts.length <= 80);
        for (int[] part : parts) {
            Polished gem = new Polished();
            gem.rough = number;
            gem.first = part[0];
            gem.cells = part[1];
            gem.owner = stone.owner;
            int share = part[1] * stone.weight / 12;
            gem.weight = share * 60 / 100;
            gems.add(gem);
        }
        stone.state = 3;
        if (tendered == number) {
            tendered = -1;
        }
        return parts.length;
    }

    int recut(int polished, int weight) {
        Polished gem = gemAt(polished);
        argument(from(1, weight, gem.weight - 1));
        int lost = gem.weight - weight;
        gem.weight = weight;
        return lost;
    }

    private static int gradeOf(Polished gem) {
        if (gem.told.size() == 2 && gem.told.get(0).equals(gem.told.get(1))) {
            return gem.told.get(0);
        }
        if (gem.told.size() < 3) {
            return -1;
        }
        List<Integer> rising = new ArrayList<>(gem.told);
        Collections.sort(rising);
        return rising.get(1);
    }

    private int originOf(Polished gem) {
        return parcels.get(stones.get(gem.rough).parcel);
    }

    int polished(int polished, int what) {
        Polished gem = gemAt(polished);
        argument(from(0, what, 8));
        int grade = gradeOf(gem);
        int price = grade == -1 ? -1 : gem.weight * (20 - grade) * (gem.weight >= 100 ? 2 : 1);
        int[] answers = {gem.rough, gem.weight, gem.first, gem.cells, gem.owner, grade, price,
            gem.paper, originOf(gem)};
        return answers[what];
    }

    int scale(int lab, int scale) {
        index(from(0, lab, 2));
        argument(from(-1, scale, 1));
        int before = scales[lab];
        scales[lab] = scale;
        return before;
    }

    int look(int lab, int polished) {
        index(from(0, lab, 2));
        Polished gem = gemAt(polished);
        state(!gem.labs.contains(lab) && gradeOf(gem) == -1);
        int told = stones.get(gem.rough).clarity + scales[lab];
        told = told < 0 ? 0 : told > 9 ? 9 : told;
        gem.labs.add(lab);
        gem.told.add(told);
        return told;
    }

    int paper(int polished, int pit) {
        Polished gem = gemAt(polished);
        index(from(0, pit, 3));
        int left = -gem.weight;
        for (Stone stone : stones) {
            left += parcels.get(stone.parcel) == pit ? stone.weight : 0;
        }
        for (Polished other : gems) {
            left -= other.paper == pit ? other.covered : 0;
        }
        state(gem.paper == -1 && left >= 0);
        gem.paper = pit;
        gem.covered = gem.weight;
        return left;
    }

    int all(int what) {
        argument(from(0, what, 5));
        int[] sums = new int[6];
        for (Stone stone : stones) {
            sums[0] += stone.weight;
            sums[1] += stone.state == 3 ? 0 : stone.weight;
        }
        for (Polished gem : gems) {
            sums[2] += gem.weight;
            sums[4] += gem.covered;
            sums[5] += gem.paper != -1 && gem.paper != originOf(gem) ? 1 : 0;
        }
        sums[3] = sums[0] - sums[1] - sums[2];
        return sums[what];
    }
}
