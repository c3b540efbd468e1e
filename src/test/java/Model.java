import java.util.ArrayList;
import java.util.HashMap;
import java.util.List;
import java.util.Map;
import java.util.TreeSet;

/** A second, plain model of the document: lists of what was told, and recursion straight from its words. */
final class Model {
    record Box(int x0, int y0, int x1, int y1) { }
    record Stand(int field, int year, int crop, int told) { }
    record Law(int kind, int from, int value, int told) { }
    record Look(int lot, int plants, int ill, int told) { }

    static final class Lot {
        int sort, crop, grams, year, field = -1, first = -1, sown, mixed, bagged, tossed, proven = -1;
        List<Integer> mothers = new ArrayList<>();
        boolean harvested;
    }

    static final class Bag {
        int lot, grams, seal, buyer = -1;
        boolean opened;
    }

    final List<Box> fields = new ArrayList<>();
    final List<Stand> stands = new ArrayList<>();
    final List<Law> laws = new ArrayList<>();
    final List<Look> looks = new ArrayList<>();
    final List<Lot> lots = new ArrayList<>();
    final List<Bag> bags = new ArrayList<>();
    final List<Integer> wanted = new ArrayList<>();
    private final Map<Integer, int[]> judged = new HashMap<>();
    private int judgedIn = -1;
    int now = 0;
    int seals = 0;

    private boolean isField(int f) { return f >= 0 && f < fields.size(); }
    private boolean isLot(int l) { return l >= 0 && l < lots.size(); }
    private boolean isBag(int b) { return b >= 0 && b < bags.size(); }
    private boolean isPast(int y) { return y >= 0 && y <= now; }

    int field(int x, int y, int u, int v) {
        for (int c : new int[] {x, y, u, v}) {
            if (c < 0 || c > 1000) return -1;
        }
        if (x == u || y == v || fields.size() == 40) return -1;
        fields.add(new Box(Math.min(x, u), Math.min(y, v), Math.max(x, u), Math.max(y, v)));
        return fields.size() - 1;
    }

    /** The points of a box with whole coordinates hold a nearest one, so the gaps can be clamped. */
    int near(int one, int other) {
        if (!isField(one) || !isField(other)) return -1;
        Box a = fields.get(one);
        Box b = fields.get(other);
        int dx = gap(a.x0, a.x1, b.x0, b.x1);
        int dy = gap(a.y0, a.y1, b.y0, b.y1);
        return dx * dx + dy * dy;
    }

    private static int gap(int a0, int a1, int b0, int b1) {
        if (a1 < b0) return b0 - a1;
        if (b1 < a0) return a0 - b1;
        return 0;
    }

    boolean stand(int field, int year, int crop) {
        if (!isField(field) || !isPast(year) || crop < 0 || crop > 4 || stands.size() == 300) return false;
        stands.add(new Stand(field, year, crop, now));
        return true;
    }

    private int lotIn(int field, int year) {
        for (int i = 0; i < lots.size(); i++) {
            if (lots.get(i).sort == 1 && lots.get(i).field == field && lots.get(i).year == year) return i;
        }
        return -1;
    }

    int stands(int field, int year, int q) {
        if (!isField(field) || !isPast(year) || !isPast(q)) return -1;
        int lot = lotIn(field, year);
        if (lot >= 0 && lots.get(lot).year <= q) return lots.get(lot).crop;
        int crop = 0;
        for (Stand s : stands) {
            if (s.field == field && s.year == year && s.told <= q) crop = s.crop;
        }
        return crop;
    }

    int statute(int kind, int from, int value) {
        int[] tops = {1000, 10, 5, 1000, 8};
        if (kind < 0 || kind > 4 || from < 0 || from > 60 || value < 0 || value > tops[kind]) return -1;
        if (laws.size() == 100) return -1;
        laws.add(new Law(kind, from, value, now));
        return laws.size();
    }

    int force(int kind, int year, int q) {
        if (kind < 0 || kind > 4 || year < 0 || year > 60 || !isPast(q)) return -1;
        int value = new int[] {50, 2, 1, 10, 6}[kind];
        int from = -1;
        for (Law s : laws) {
            if (s.kind == kind && s.told <= q && s.from <= year && s.from >= from) {
                from = s.from;
                value = s.value;
            }
        }
        return value;
    }

    int tube(int crop) {
        if (crop < 1 || crop > 4 || lots.size() == 200) return -1;
        Lot lot = new Lot();
        lot.crop = crop;
        lot.year = now;
        lot.grams = lot.first = 100;
        lots.add(lot);
        return lots.size() - 1;
    }

    private boolean has(int lot, int grams) { return isLot(lot) && grams >= 1 && grams <= lots.get(lot).grams; }

    int sow(int lot, int field, int grams) {
        if (!has(lot, grams) || !isField(field) || lots.size() == 200) return -1;
        Lot mother = lots.get(lot);
        if (mother.sort != 0 && mother.year == now || lotIn(field, now) >= 0) return -1;
        mother.grams -= grams;
        mother.sown += grams;
        Lot child = new Lot();
        child.sort = 1;
        child.crop = mother.crop;
        child.year = now;
        child.field = field;
        child.mothers.add(lot);
        lots.add(child);
        return lots.size() - 1;
    }

    boolean harvest(int lot, int grams) {
        if (!isLot(lot) || grams < 1 || grams > 100000) return false;
        Lot l = lots.get(lot);
        if (l.sort != 1 || l.harvested) return false;
        l.harvested = true;
        l.grams = l.first = grams;
        return true;
    }

    int mix(int one, int grams, int other, int more) {
        if (!has(one, grams) || !has(other, more) || one == other || lots.size() == 200) return -1;
        Lot a = lots.get(one);
        Lot b = lots.get(other);
        if (a.crop != b.crop) return -1;
        a.grams -= grams;
        a.mixed += grams;
        b.grams -= more;
        b.mixed += more;
        Lot child = new Lot();
        child.sort = 2;
        child.crop = a.crop;
        child.year = now;
        child.grams = child.first = grams + more;
        child.mothers.add(one);
        child.mothers.add(other);
        lots.add(child);
        return lots.size() - 1;
    }

    int bag(int lot, int grams) {
        if (!has(lot, grams) || bags.size() == 200 || judge(lot, now) == 9) return -1;
        lots.get(lot).grams -= grams;
        lots.get(lot).bagged += grams;
        Bag bag = new Bag();
        bag.lot = lot;
        bag.grams = grams;
        bag.seal = ++seals;
        bags.add(bag);
        return bags.size() - 1;
    }

    boolean open(int bag) {
        if (!isBag(bag) || bags.get(bag).opened) return false;
        bags.get(bag).opened = true;
        return true;
    }

    int seal(int bag) {
        if (!isBag(bag)) return -1;
        Bag b = bags.get(bag);
        if (!b.opened || b.buyer >= 0 || judge(b.lot, now) == 9) return -1;
        b.opened = false;
        b.seal = ++seals;
        return b.seal;
    }

    boolean sell(int bag, int buyer) {
        if (!isBag(bag) || buyer < 0 || buyer > 19) return false;
        Bag b = bags.get(bag);
        if (b.opened || b.buyer >= 0) return false;
        b.buyer = buyer;
        return true;
    }

    boolean toss(int lot, int grams) {
        if (!has(lot, grams)) return false;
        lots.get(lot).grams -= grams;
        lots.get(lot).tossed += grams;
        return true;
    }

    int look(int lot, int plants, int ill) {
        if (!isLot(lot) || lots.get(lot).sort != 1 || plants < 1 || plants > 10000) return -1;
        if (ill < 0 || ill > plants || looks.size() == 300) return -1;
        looks.add(new Look(lot, plants, ill, now));
        return looksAt(lot);
    }

    private int looksAt(int lot) {
        return (int) looks.stream().filter(l -> l.lot == lot).count();
    }

    int drawn(int n, int k, long seed, int i) {
        if (n < 1 || n > 500 || k < 0 || k > n || k > 40 || i < 0 || i >= k) return -1;
        List<Integer> line = new ArrayList<>();
        for (int r = 0; r < n; r++) line.add(r);
        long x = seed;
        for (int j = 0; j < k; j++) {
            x = x * 6364136223846793005L + 1442695040888963407L;
            java.util.Collections.swap(line, j, (int) (j + (x >>> 33) % (n - j)));
        }
        return line.get(i);
    }

    boolean prove(int lot) {
        if (!isLot(lot) || lots.get(lot).proven >= 0) return false;
        lots.get(lot).proven = now;
        return true;
    }

    int year() {
        return now == 40 ? -1 : ++now;
    }

    int judge(int lot, int q) {
        return isLot(lot) && q >= lots.get(lot).year && q <= now ? judgeAnew(lot, q)[0] : -1;
    }

    int why(int lot, int q) {
        return isLot(lot) && q >= lots.get(lot).year && q <= now ? judgeAnew(lot, q)[1] : -1;
    }

    private int[] judgeAnew(int lot, int q) {
        judged.clear();
        judgedIn = q;
        return verdict(lot);
    }

    private int[] verdict(int lot) {
        int[] known = judged.get(lot);
        if (known == null) {
            known = workOut(lot, judgedIn);
            judged.put(lot, known);
        }
        return known;
    }

    private int[] workOut(int number, int q) {
        Lot lot = lots.get(number);
        if (lot.proven >= 0 && lot.proven <= q) return new int[] {9, 5};
        if (lot.sort == 0) return new int[] {0, 0};
        int worst = 0;
        for (int mother : lot.mothers) worst = Math.max(worst, verdict(mother)[0]);
        if (worst == 9) return new int[] {9, 7};
        if (lot.sort == 2) return new int[] {worst, 0};
        int distance = force(0, lot.year, q);
        for (int f = 0; f < fields.size(); f++) {
            if (f == lot.field || stands(f, lot.year, q) != lot.crop) continue;
            if (near(f, lot.field) >= distance * distance) continue;
            int neighbour = lotIn(f, lot.year);
            boolean fine = neighbour >= 0 && verdict(lots.get(neighbour).mothers.get(0))[0] <= worst;
            if (!fine) return new int[] {9, 1};
        }
        for (int back = 1; back <= force(1, lot.year, q); back++) {
            if (stands(lot.field, lot.year - back, q) == lot.crop) return new int[] {9, 2};
        }
        int seen = 0;
        long plants = 0;
        long ill = 0;
        for (Look l : looks) {
            if (l.lot == number && l.told <= q) {
                seen++;
                plants += l.plants;
                ill += l.ill;
            }
        }
        if (seen < force(2, lot.year, q)) return new int[] {9, 3};
        if (1000 * ill > force(3, lot.year, q) * plants) return new int[] {9, 4};
        if (worst + 1 > force(4, lot.year, q)) return new int[] {9, 6};
        return new int[] {worst + 1, 0};
    }

    int ways(int lot, int other) {
        if (!isLot(lot) || !isLot(other)) return 0;
        return (int) Math.min(1000000, countWays(lot, other, new HashMap<>()));
    }

    private double countWays(int lot, int other, Map<Integer, Double> known) {
        if (lot == other) return 1;
        if (known.containsKey(lot)) return known.get(lot);
        double sum = 0;
        for (int mother : lots.get(lot).mothers) sum += countWays(mother, other, known);
        known.put(lot, sum);
        return sum;
    }

    private boolean isOf(int x, int y) { return ways(x, y) > 0; }

    int touched(int lot, int row, int i) {
        if (!isLot(lot) || row < 0 || row > 2 || i < 0) return -1;
        List<TreeSet<Integer>> rows = List.of(new TreeSet<>(), new TreeSet<>(), new TreeSet<>());
        for (int x = 0; x < lots.size(); x++) {
            int each = x;
            if (isOf(x, lot)) rows.get(0).add(x);
            else if (isOf(lot, x)) rows.get(1).add(x);
            else if (lots.get(lot).mothers.stream().anyMatch(m -> isOf(each, m))) rows.get(2).add(x);
        }
        List<Integer> found = new ArrayList<>(rows.get(row));
        return i < found.size() ? found.get(i) : -1;
    }

    int buyers(int lot) {
        int bits = 0;
        for (Bag b : bags) {
            if (isLot(lot) && b.buyer >= 0 && isOf(b.lot, lot)) bits |= 1 << b.buyer;
        }
        return bits;
    }

    int want(int lot) {
        if (lot == -1) {
            wanted.clear();
            return 0;
        }
        if (!isLot(lot) || wanted.size() == 5 || wanted.contains(lot)) return -1;
        wanted.add(lot);
        return wanted.size();
    }

    /** Goes through all 7 to the 5th ways, fields 0 .. 5 and 6 for none, in rising order. */
    int plan(int i) {
        if (i < 0 || i >= wanted.size()) return -1;
        int all = (int) Math.pow(7, wanted.size());
        boolean[][] may = new boolean[wanted.size()][6];
        for (int l = 0; l < wanted.size(); l++) {
            for (int f = 0; f < 6; f++) may[l][f] = isField(f) && mayGo(wanted.get(l), f);
        }
        int most = -1;
        int[] best = null;
        for (int code = 0; code < all; code++) {
            int[] way = new int[wanted.size()];
            int rest = code;
            for (int l = way.length - 1; l >= 0; l--) {
                way[l] = rest % 7;
                rest /= 7;
            }
            int going = goingBy(way, may);
            if (going > most) {
                most = going;
                best = way;
            }
        }
        return best[i] == 6 ? -1 : best[i];
    }

    private boolean mayGo(int lot, int field) {
        for (int y = now; y >= now + 1 - force(1, now + 1, now); y--) {
            if (stands(field, y, now) == lots.get(lot).crop) return false;
        }
        return true;
    }

    private int goingBy(int[] way, boolean[][] may) {
        int distance = force(0, now + 1, now);
        int going = 0;
        for (int a = 0; a < way.length; a++) {
            if (way[a] == 6) continue;
            if (!may[a][way[a]]) return -1;
            going++;
            for (int b = 0; b < a; b++) {
                if (way[b] == 6) continue;
                if (way[a] == way[b]) return -1;
                boolean oneCrop = lots.get(wanted.get(a)).crop == lots.get(wanted.get(b)).crop;
                if (oneCrop && near(way[a], way[b]) < distance * distance) return -1;
            }
        }
        return going;
    }

    int told(int lot, int what) {
        if (!isLot(lot) || what < 0 || what > 13) return -1;
        Lot l = lots.get(lot);
        int one = l.mothers.isEmpty() ? -1 : l.mothers.get(0);
        int other = l.mothers.size() < 2 ? -1 : l.mothers.get(1);
        int[] all = {l.sort, l.crop, l.grams, l.year, l.field, one, other, l.first, l.sown, l.mixed,
            l.bagged, l.tossed, looksAt(lot), l.proven};
        return all[what];
    }

    int sack(int bag, int what) {
        if (!isBag(bag) || what < 0 || what > 3) return -1;
        Bag b = bags.get(bag);
        return new int[] {b.lot, b.grams, b.opened ? 0 : b.seal, b.buyer}[what];
    }

    int count(int what) {
        if (what < 0 || what > 8) return -1;
        int out = 0;
        for (int i = 0; what == 7 && i < lots.size(); i++) {
            if (judge(i, now) == 9) out++;
        }
        return new int[] {now, fields.size(), lots.size(), bags.size(), seals, laws.size(), looks.size(), out,
            wanted.size()}[what];
    }
}
