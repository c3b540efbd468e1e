import java.util.Random;

/** All promises: long random runs with fixed seeds, each answer compared with that of the plain model. */
public final class ModelTest {
    private static final Due due = new Due("ModelTest");
    private static final int CALLS = 512;
    private static final int[] STRANGE = {Integer.MIN_VALUE, Integer.MIN_VALUE + 1, -1000, -2, -1, 0, 1, 2, 39, 40,
        41, 60, 61, 199, 200, 201, 500, 1000, 1001, 10001, 100001, Integer.MAX_VALUE - 1, Integer.MAX_VALUE};

    private final Random random;
    private final CleanSeed office = new CleanSeed();
    private final Model model = new Model();
    private final StringBuilder name = new StringBuilder();
    private final int strangeIn;
    private final int land;

    private ModelTest(long seed) {
        random = new Random(seed);
        strangeIn = seed % 5 == 0 ? 4 : 40;
        land = new int[] {60, 150, 400, 1000}[(int) (seed % 4)];
    }

    public static void main(String[] args) {
        int[] reasons = new int[8];
        for (long seed = 1; seed <= 400; seed++) {
            ModelTest run = new ModelTest(seed);
            run.all(seed, reasons);
        }
        for (int reason = 0; reason < 8; reason++) {
            due.is("reason " + reason + " was seen often", reasons[reason] > 50, true);
        }
        due.end();
    }

    private void all(long seed, int[] reasons) {
        for (int i = 0; i < CALLS; i++) {
            name.setLength(0);
            long[] answers = i < 8 ? begin(i) : any();
            due.is("run " + seed + ", call " + i + ": " + name, answers[0], answers[1]);
            if (name.toString().startsWith("why") && answers[1] >= 0) {
                reasons[(int) answers[1]]++;
            }
        }
    }

    private int arg(int low, int high) {
        int value = random.nextInt(strangeIn) == 0
                ? STRANGE[random.nextInt(STRANGE.length)] : low + random.nextInt(high - low + 1);
        name.append(' ').append(value);
        return value;
    }

    private int lot() {
        int size = model.lots.size();
        boolean late = random.nextInt(3) > 0;
        return arg(late ? Math.max(0, size - 12) : 0, size);
    }

    private int fieldLot() {
        for (int tries = 0; tries < 8; tries++) {
            int lot = model.lots.isEmpty() ? 0 : random.nextInt(model.lots.size());
            if (lot < model.lots.size() && model.lots.get(lot).sort == 1) {
                return arg(lot, lot);
            }
        }
        return lot();
    }

    private int place() { return arg(0, model.fields.size()); }

    private int sackNumber() { return arg(0, model.bags.size()); }

    private int past() { return arg(Math.max(0, model.now - 3), model.now); }

    private int crop() { return arg(1, 2); }

    private int grams() { return arg(1, 8); }

    private static long bit(boolean b) { return b ? 1 : 0; }

    private static long[] pair(long got, long want) { return new long[] {got, want}; }

    private long[] begin(int i) {
        return i < 5 ? newField() : newTube();
    }

    private long[] newField() {
        name.append("field");
        int x = arg(0, land), y = arg(0, land), u = Math.min(x, 900) + arg(1, 20), v = Math.min(y, 900) + arg(1, 20);
        return pair(office.field(x, y, u, v), model.field(x, y, u, v));
    }

    private long[] newTube() {
        name.append("tube");
        int crop = crop();
        return pair(office.tube(crop), model.tube(crop));
    }

    private long[] any() {
        int kind = random.nextInt(100);
        if (kind < 50) {
            return change(kind);
        }
        return kind < 75 ? judgement(kind) : question(random.nextInt(13));
    }

    private long[] change(int kind) {
        if (kind < 2) return newField();
        if (kind < 5) return newTube();
        if (kind < 14) return newSow();
        if (kind < 19) return newHarvest();
        if (kind < 23) return newMix();
        if (kind < 26) return newStatute();
        if (kind < 29) return newStand();
        if (kind < 37) return newLook();
        if (kind < 40) return newBag();
        if (kind < 46) return sackChange(kind);
        if (kind < 47) return newProof();
        if (kind < 48) return newToss();
        if (kind < 49) return newWant();
        name.append("year");
        return pair(office.year(), model.year());
    }

    private long[] newSow() {
        name.append("sow");
        int lot = lot(), field = place(), grams = grams();
        return pair(office.sow(lot, field, grams), model.sow(lot, field, grams));
    }

    private long[] newHarvest() {
        name.append("harvest");
        int lot = fieldLot(), grams = arg(20, 200);
        return pair(bit(office.harvest(lot, grams)), bit(model.harvest(lot, grams)));
    }

    private long[] newMix() {
        name.append("mix");
        int one = lot(), grams = grams(), other = lot(), more = grams();
        return pair(office.mix(one, grams, other, more), model.mix(one, grams, other, more));
    }

    private long[] newStatute() {
        name.append("statute");
        int kind = arg(0, 4);
        int from = arg(0, model.now + 2);
        int[] usual = {60, 3, 2, 40, 6};
        int value = arg(0, kind >= 0 && kind < 5 ? usual[kind] : 5);
        return pair(office.statute(kind, from, value), model.statute(kind, from, value));
    }

    private long[] newStand() {
        name.append("stand");
        int field = place(), year = past(), crop = arg(0, 2);
        return pair(bit(office.stand(field, year, crop)), bit(model.stand(field, year, crop)));
    }

    private long[] newLook() {
        name.append("look");
        int lot = fieldLot(), plants = arg(100, 1000), ill = arg(0, 8);
        return pair(office.look(lot, plants, ill), model.look(lot, plants, ill));
    }

    private long[] newBag() {
        name.append("bag");
        int lot = lot(), grams = grams();
        return pair(office.bag(lot, grams), model.bag(lot, grams));
    }

    private long[] sackChange(int kind) {
        if (kind < 42) {
            name.append("open");
            int bag = sackNumber();
            return pair(bit(office.open(bag)), bit(model.open(bag)));
        }
        if (kind < 44) {
            name.append("seal");
            int bag = sackNumber();
            return pair(office.seal(bag), model.seal(bag));
        }
        name.append("sell");
        int bag = sackNumber(), buyer = arg(0, 19);
        return pair(bit(office.sell(bag, buyer)), bit(model.sell(bag, buyer)));
    }

    private long[] newProof() {
        name.append("prove");
        int lot = random.nextInt(4) == 0 ? lot() : arg(-1, 0);
        return pair(bit(office.prove(lot)), bit(model.prove(lot)));
    }

    private long[] newToss() {
        name.append("toss");
        int lot = lot(), grams = grams();
        return pair(bit(office.toss(lot, grams)), bit(model.toss(lot, grams)));
    }

    private long[] newWant() {
        name.append("want");
        int lot = lot();
        return pair(office.want(lot), model.want(lot));
    }

    private long[] judgement(int kind) {
        if (kind < 60) {
            name.append("judge");
            int lot = lot(), q = past();
            return pair(office.judge(lot, q), model.judge(lot, q));
        }
        name.append("why");
        int lot = random.nextInt(2) == 0 ? lot() : fieldLot(), q = past();
        return pair(office.why(lot, q), model.why(lot, q));
    }

    private long[] question(int which) {
        String[] names = {"near", "stands", "force", "ways", "touched", "buyers", "plan", "told", "sack", "count",
            "drawn", "want", "touched"};
        name.append(names[which]);
        int a, b, c;
        switch (which) {
            case 0: a = place(); b = place(); return pair(office.near(a, b), model.near(a, b));
            case 1: a = place(); b = past(); c = past(); return pair(office.stands(a, b, c), model.stands(a, b, c));
            case 2: a = arg(0, 4); b = arg(0, 45); c = past(); return pair(office.force(a, b, c), model.force(a, b, c));
            case 3: a = lot(); b = arg(0, 20); return pair(office.ways(a, b), model.ways(a, b));
            case 5: a = lot(); return pair(office.buyers(a), model.buyers(a));
            case 6: a = arg(0, 4); return pair(office.plan(a), model.plan(a));
            case 7: a = lot(); b = arg(0, 13); return pair(office.told(a, b), model.told(a, b));
            case 8: a = sackNumber(); b = arg(0, 3); return pair(office.sack(a, b), model.sack(a, b));
            case 9: a = arg(0, 8); return pair(office.count(a), model.count(a));
            case 10: a = arg(1, 60); b = arg(1, 40); c = arg(0, 20);
                return pair(office.drawn(a, b, a * 77L + b, c), model.drawn(a, b, a * 77L + b, c));
            case 11: return newWant();
            default: a = lot(); b = arg(0, 2); c = arg(0, 9);
                return pair(office.touched(a, b, c), model.touched(a, b, c));
        }
    }
}
