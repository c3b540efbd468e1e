/**
 * The office that certifies seed: fields, lots, bags and statutes, and what was known of them in any
 * year. Every refused call answers as the document tells and changes nothing.
 */
public final class CleanSeed {
    public static final int NONE = -1;

    private static final int LAST_YEAR = 40;
    private static final int LAST_STATUTE_YEAR = 60;
    private static final int MOST_FIELDS = 40;
    private static final int MOST_LOTS = 200;
    private static final int MOST_BAGS = 200;
    private static final int MOST_STANDS = 300;
    private static final int MOST_STATUTES = 100;
    private static final int MOST_LOOKS = 300;
    private static final int MOST_WAYS = 1000000;

    private static final int LAST_COORDINATE = 1000;
    private static final int LAST_CROP = 4;
    private static final int LAST_BUYER = 19;
    private static final int MOST_HARVEST = 100000;
    private static final int MOST_PLANTS = 10000;
    private static final int TUBE_GRAMS = 100;

    private static final int TUBE = 0;
    private static final int FIELD = 1;
    private static final int MIXED = 2;

    private static final int DISTANCE = 0;
    private static final int YEARS_SINCE = 1;
    private static final int LOOKS = 2;
    private static final int ILLS = 3;
    private static final int LAST_CLASS = 4;
    private static final int[] STATUTE_TOPS = {1000, 10, 5, 1000, 8};
    private static final int[] STATUTES_AT_FIRST = {50, 2, 1, 10, 6};

    private static final int OUT = 9;
    private static final int WHY_NONE = 0;
    private static final int WHY_CROWDED = 1;
    private static final int WHY_GROWN_BEFORE = 2;
    private static final int WHY_FEW_LOOKS = 3;
    private static final int WHY_ILL = 4;
    private static final int WHY_FALSE = 5;
    private static final int WHY_LAST_CLASS = 6;
    private static final int WHY_MOTHER = 7;

    private static final int DRAW_ROWS = 500;
    private static final int DRAW_MOST = 40;
    private static final long DRAW_TIMES = 6364136223846793005L;
    private static final long DRAW_PLUS = 1442695040888963407L;

    private static final int PLAN_LOTS = 5;
    private static final int PLAN_FIELDS = 6;

    private final Book book;
    private final Assessor assessor;
    private final Kin kin;
    private final Planner planner;
    private final int[] line;

    public CleanSeed() {
        book = new Book();
        assessor = new Assessor(book);
        kin = new Kin(book);
        planner = new Planner(book);
        line = new int[DRAW_ROWS];
    }

    public int field(int x, int y, int u, int v) {
        boolean inBounds = within(x, 0, LAST_COORDINATE) && within(y, 0, LAST_COORDINATE)
                && within(u, 0, LAST_COORDINATE) && within(v, 0, LAST_COORDINATE);
        if (!inBounds || x == u || y == v || book.fieldCount >= MOST_FIELDS) {
            return NONE;
        }
        return book.addField(new Field(book.fieldCount, x, y, u, v));
    }

    public int near(int one, int other) {
        Field from = book.fieldAt(one);
        Field to = book.fieldAt(other);
        return from == null || to == null ? NONE : from.squareTo(to);
    }

    public boolean stand(int field, int year, int crop) {
        Field place = book.fieldAt(field);
        if (place == null || !within(year, 0, book.now) || !within(crop, 0, LAST_CROP)
                || book.standsTold >= MOST_STANDS) {
            return false;
        }
        place.tell(year, crop, book.now);
        book.standsTold++;
        return true;
    }

    public int stands(int field, int year, int q) {
        Field place = book.fieldAt(field);
        if (place == null || !within(year, 0, book.now) || !within(q, 0, book.now)) {
            return NONE;
        }
        return place.cropIn(year, q);
    }

    public int statute(int kind, int from, int value) {
        if (!within(kind, 0, STATUTE_TOPS.length - 1) || !within(from, 0, LAST_STATUTE_YEAR)
                || !within(value, 0, STATUTE_TOPS[kind])) {
            return NONE;
        }
        return book.addStatute(kind, from, value);
    }

    public int force(int kind, int year, int q) {
        if (!within(kind, 0, STATUTE_TOPS.length - 1) || !within(year, 0, LAST_STATUTE_YEAR)
                || !within(q, 0, book.now)) {
            return NONE;
        }
        return book.inForce(kind, year, q);
    }

    public int tube(int crop) {
        if (!within(crop, 1, LAST_CROP) || book.lotCount >= MOST_LOTS) {
            return NONE;
        }
        Lot lot = new Lot(book.lotCount, TUBE, crop, book.now);
        lot.gain(TUBE_GRAMS);
        return book.addLot(lot);
    }

    public int sow(int lot, int field, int grams) {
        Lot mother = book.lotAt(lot);
        Field place = book.fieldAt(field);
        if (mother == null || place == null || !mother.has(grams) || book.lotCount >= MOST_LOTS) {
            return NONE;
        }
        boolean tooYoung = mother.sort != TUBE && mother.year == book.now;
        if (tooYoung || place.grownIn(book.now) != null) {
            return NONE;
        }
        Lot child = new Lot(book.lotCount, FIELD, mother.crop, book.now);
        child.mother = mother;
        child.place = place;
        place.grow(child);
        mother.grams -= grams;
        mother.sown += grams;
        return book.addLot(child);
    }

    public boolean harvest(int lot, int grams) {
        Lot reaped = book.lotAt(lot);
        if (reaped == null || reaped.sort != FIELD || reaped.first != NONE
                || !within(grams, 1, MOST_HARVEST)) {
            return false;
        }
        reaped.gain(grams);
        return true;
    }

    public int mix(int one, int grams, int other, int more) {
        Lot mother = book.lotAt(one);
        Lot second = book.lotAt(other);
        if (mother == null || second == null || mother == second || mother.crop != second.crop
                || !mother.has(grams) || !second.has(more) || book.lotCount >= MOST_LOTS) {
            return NONE;
        }
        Lot child = new Lot(book.lotCount, MIXED, mother.crop, book.now);
        child.mother = mother;
        child.second = second;
        child.gain(grams + more);
        mother.grams -= grams;
        mother.mixed += grams;
        second.grams -= more;
        second.mixed += more;
        return book.addLot(child);
    }

    public int bag(int lot, int grams) {
        Lot source = book.lotAt(lot);
        if (source == null || !source.has(grams) || book.bagCount >= MOST_BAGS) {
            return NONE;
        }
        assessor.assessUpTo(source.number, book.now);
        if (source.rank == OUT) {
            return NONE;
        }
        source.grams -= grams;
        source.bagged += grams;
        return book.addBag(new Bag(source, grams, book.nextSeal()));
    }

    public boolean open(int bag) {
        Bag opened = book.bagAt(bag);
        if (opened == null || opened.isOpened()) {
            return false;
        }
        opened.seal = 0;
        return true;
    }

    public int seal(int bag) {
        Bag closed = book.bagAt(bag);
        if (closed == null || !closed.isOpened() || closed.isSold()) {
            return NONE;
        }
        assessor.assessUpTo(closed.lot.number, book.now);
        if (closed.lot.rank == OUT) {
            return NONE;
        }
        closed.seal = book.nextSeal();
        return closed.seal;
    }

    public boolean sell(int bag, int buyer) {
        Bag sold = book.bagAt(bag);
        if (sold == null || !within(buyer, 0, LAST_BUYER) || sold.isOpened() || sold.isSold()) {
            return false;
        }
        sold.buyer = buyer;
        return true;
    }

    public boolean toss(int lot, int grams) {
        Lot source = book.lotAt(lot);
        if (source == null || !source.has(grams)) {
            return false;
        }
        source.grams -= grams;
        source.tossed += grams;
        return true;
    }

    public int look(int lot, int plants, int ill) {
        Lot seen = book.lotAt(lot);
        if (seen == null || seen.sort != FIELD || !within(plants, 1, MOST_PLANTS)
                || !within(ill, 0, plants) || book.looksTold >= MOST_LOOKS) {
            return NONE;
        }
        seen.lastLook = new Look(seen.lastLook, book.now, plants, ill);
        book.looksTold++;
        return seen.lookCount();
    }

    public int drawn(int n, int k, long seed, int i) {
        if (!within(n, 1, DRAW_ROWS) || !within(k, 0, Math.min(n, DRAW_MOST)) || !within(i, 0, k - 1)) {
            return NONE;
        }
        for (int row = 0; row < n; row++) {
            line[row] = row;
        }
        long x = seed;
        // Places up to i are settled once j has passed i, so the draws behind it need not be made.
        for (int j = 0; j <= i; j++) {
            x = x * DRAW_TIMES + DRAW_PLUS;
            int place = j + (int) ((x >>> 33) % (n - j));
            int moved = line[j];
            line[j] = line[place];
            line[place] = moved;
        }
        return line[i];
    }

    public boolean prove(int lot) {
        Lot proven = book.lotAt(lot);
        if (proven == null || proven.falseIn != NONE) {
            return false;
        }
        proven.falseIn = book.now;
        return true;
    }

    public int year() {
        if (book.now >= LAST_YEAR) {
            return NONE;
        }
        book.now++;
        return book.now;
    }

    public int judge(int lot, int q) {
        Lot judged = lotKnownIn(lot, q);
        if (judged == null) {
            return NONE;
        }
        assessor.assessUpTo(judged.number, q);
        return judged.rank;
    }

    public int why(int lot, int q) {
        Lot judged = lotKnownIn(lot, q);
        if (judged == null) {
            return NONE;
        }
        assessor.assessUpTo(judged.number, q);
        return judged.reason;
    }

    public int ways(int lot, int other) {
        Lot start = book.lotAt(lot);
        Lot end = book.lotAt(other);
        if (start == null || end == null) {
            return 0;
        }
        kin.traceBelow(end);
        return start.lines;
    }

    public int touched(int lot, int row, int i) {
        Lot origin = book.lotAt(lot);
        if (origin == null || !within(row, 0, 2) || i < 0) {
            return NONE;
        }
        return kin.touchedBy(origin, row, i);
    }

    public int buyers(int lot) {
        Lot origin = book.lotAt(lot);
        return origin == null ? 0 : kin.buyersBelow(origin);
    }

    public int want(int lot) {
        if (lot == NONE) {
            planner.forgetAll();
            return 0;
        }
        Lot wanted = book.lotAt(lot);
        return wanted == null ? NONE : planner.add(wanted);
    }

    public int plan(int i) {
        return within(i, 0, planner.size - 1) ? planner.placeOf(i) : NONE;
    }

    public int told(int lot, int what) {
        Lot asked = book.lotAt(lot);
        return asked == null ? NONE : asked.about(what);
    }

    public int sack(int bag, int what) {
        Bag asked = book.bagAt(bag);
        return asked == null ? NONE : asked.about(what);
    }

    public int count(int what) {
        switch (what) {
            case 0: return book.now;
            case 1: return book.fieldCount;
            case 2: return book.lotCount;
            case 3: return book.bagCount;
            case 4: return book.sealsSoFar;
            case 5: return book.statutesTold;
            case 6: return book.looksTold;
            case 7: return assessor.countOut(book.now);
            case 8: return planner.size;
            default: return NONE;
        }
    }

    private static boolean within(int value, int low, int high) {
        return value >= low && value <= high;
    }

    private Lot lotKnownIn(int lot, int q) {
        Lot found = book.lotAt(lot);
        return found != null && within(q, found.year, book.now) ? found : null;
    }

    /** All that the office has been told, and the year that it is. */
    private static final class Book {
        int now = 0;
        final Field[] fields = new Field[MOST_FIELDS];
        int fieldCount = 0;
        final Lot[] lots = new Lot[MOST_LOTS];
        int lotCount = 0;
        final Bag[] bags = new Bag[MOST_BAGS];
        int bagCount = 0;
        int sealsSoFar = 0;
        final Statute[] lastStatutes = new Statute[STATUTE_TOPS.length];
        int statutesTold = 0;
        int standsTold = 0;
        int looksTold = 0;

        Field fieldAt(int number) {
            return number >= 0 && number < fieldCount && number < fields.length ? fields[number] : null;
        }

        Lot lotAt(int number) {
            return number >= 0 && number < lotCount && number < lots.length ? lots[number] : null;
        }

        Bag bagAt(int number) {
            return number >= 0 && number < bagCount && number < bags.length ? bags[number] : null;
        }

        int addField(Field field) {
            if (fieldCount >= fields.length) {
                return NONE;
            }
            fields[fieldCount] = field;
            fieldCount++;
            return fieldCount - 1;
        }

        int addLot(Lot lot) {
            if (lotCount >= lots.length) {
                return NONE;
            }
            lots[lotCount] = lot;
            lotCount++;
            return lotCount - 1;
        }

        int addBag(Bag bag) {
            if (bagCount >= bags.length) {
                return NONE;
            }
            bags[bagCount] = bag;
            bagCount++;
            return bagCount - 1;
        }

        int nextSeal() {
            sealsSoFar++;
            return sealsSoFar;
        }

        int addStatute(int kind, int from, int value) {
            if (statutesTold >= MOST_STATUTES || kind < 0 || kind >= lastStatutes.length) {
                return NONE;
            }
            lastStatutes[kind] = new Statute(lastStatutes[kind], now, from, value);
            statutesTold++;
            return statutesTold;
        }

        int inForce(int kind, int year, int q) {
            if (kind < 0 || kind >= lastStatutes.length || kind >= STATUTES_AT_FIRST.length) {
                return NONE;
            }
            Statute best = null;
            // From the last told to the first: of several from one year the first met is the one told last.
            for (Statute each = lastStatutes[kind]; each != null; each = each.before) {
                boolean counts = each.toldIn <= q && each.from <= year;
                if (counts && (best == null || each.from > best.from)) {
                    best = each;
                }
            }
            return best == null ? STATUTES_AT_FIRST[kind] : best.value;
        }
    }

    /** A field: a box, the lots grown in it and what was told of it, by years. */
    private static final class Field {
        final int number;
        final int left;
        final int right;
        final int low;
        final int high;
        final Lot[] grown = new Lot[LAST_YEAR + 1];
        final Telling[] lastTold = new Telling[LAST_YEAR + 1];

        Field(int number, int x, int y, int u, int v) {
            this.number = number;
            left = Math.min(x, u);
            right = Math.max(x, u);
            low = Math.min(y, v);
            high = Math.max(y, v);
        }

        int squareTo(Field other) {
            int across = Math.max(0, Math.max(other.left - right, left - other.right));
            int along = Math.max(0, Math.max(other.low - high, low - other.high));
            return across * across + along * along;
        }

        void grow(Lot lot) {
            if (lot.year >= 0 && lot.year < grown.length) {
                grown[lot.year] = lot;
            }
        }

        void tell(int year, int crop, int toldIn) {
            if (year >= 0 && year < lastTold.length) {
                lastTold[year] = new Telling(lastTold[year], toldIn, crop);
            }
        }

        Lot grownIn(int year) {
            return year >= 0 && year < grown.length ? grown[year] : null;
        }

        int cropIn(int year, int q) {
            if (year < 0 || year >= lastTold.length) {
                return 0;
            }
            Lot lot = grownIn(year);
            if (lot != null && lot.year <= q) {
                return lot.crop;
            }
            for (Telling each = lastTold[year]; each != null; each = each.before) {
                if (each.toldIn <= q) {
                    return each.crop;
                }
            }
            return 0;
        }

        boolean stoodAheadOf(int year, int years, int crop, int q) {
            int earliest = Math.max(0, year - years);
            for (int each = year - 1; each >= earliest; each--) {
                if (cropIn(each, q) == crop) {
                    return true;
                }
            }
            return false;
        }
    }

    /** What was told of one field in one year, with what was told of them before. */
    private static final class Telling {
        final Telling before;
        final int toldIn;
        final int crop;

        Telling(Telling before, int toldIn, int crop) {
            this.before = before;
            this.toldIn = toldIn;
            this.crop = crop;
        }
    }

    /** A statute, with the one of its kind that was told before it. */
    private static final class Statute {
        final Statute before;
        final int toldIn;
        final int from;
        final int value;

        Statute(Statute before, int toldIn, int from, int value) {
            this.before = before;
            this.toldIn = toldIn;
            this.from = from;
            this.value = value;
        }
    }

    /** A look at a lot; it carries the sums of all looks up to it, so that one look answers for them. */
    private static final class Look {
        final Look before;
        final int toldIn;
        final int number;
        final int plants;
        final int ill;

        Look(Look before, int toldIn, int plants, int ill) {
            this.before = before;
            this.toldIn = toldIn;
            this.number = before == null ? 1 : before.number + 1;
            this.plants = before == null ? plants : before.plants + plants;
            this.ill = before == null ? ill : before.ill + ill;
        }
    }

    /** A lot of seed. The last five fields are worked out anew by each question that needs them. */
    private static final class Lot {
        final int number;
        final int sort;
        final int crop;
        final int year;
        Field place = null;
        Lot mother = null;
        Lot second = null;
        int grams = 0;
        int first = NONE;
        int sown = 0;
        int mixed = 0;
        int bagged = 0;
        int tossed = 0;
        Look lastLook = null;
        int falseIn = NONE;
        int rank = 0;
        int reason = WHY_NONE;
        int lines = 0;
        boolean above = false;
        boolean akin = false;

        Lot(int number, int sort, int crop, int year) {
            this.number = number;
            this.sort = sort;
            this.crop = crop;
            this.year = year;
        }

        void gain(int amount) {
            grams = amount;
            first = amount;
        }

        boolean has(int amount) {
            return amount >= 1 && amount <= grams;
        }

        boolean isFalseAsKnownIn(int q) {
            return falseIn != NONE && falseIn <= q;
        }

        int lookCount() {
            return lastLook == null ? 0 : lastLook.number;
        }

        Look lastLookAsKnownIn(int q) {
            for (Look each = lastLook; each != null; each = each.before) {
                if (each.toldIn <= q) {
                    return each;
                }
            }
            return null;
        }

        int about(int what) {
            switch (what) {
                case 0: return sort;
                case 1: return crop;
                case 2: return grams;
                case 3: return year;
                case 4: return place == null ? NONE : place.number;
                case 5: return mother == null ? NONE : mother.number;
                case 6: return second == null ? NONE : second.number;
                case 7: return first;
                case 8: return sown;
                case 9: return mixed;
                case 10: return bagged;
                case 11: return tossed;
                case 12: return lookCount();
                case 13: return falseIn;
                default: return NONE;
            }
        }

        int rankOfMothers() {
            int one = mother == null ? 0 : mother.rank;
            int other = second == null ? 0 : second.rank;
            return one > other ? one : other;
        }
    }

    /** A bag; its seal is 0 while it is opened. */
    private static final class Bag {
        final Lot lot;
        final int grams;
        int seal;
        int buyer = NONE;

        Bag(Lot lot, int grams, int seal) {
            this.lot = lot;
            this.grams = grams;
            this.seal = seal;
        }

        boolean isOpened() {
            return seal == 0;
        }

        boolean isSold() {
            return buyer != NONE;
        }

        int about(int what) {
            switch (what) {
                case 0: return lot.number;
                case 1: return grams;
                case 2: return seal;
                case 3: return buyer;
                default: return NONE;
            }
        }
    }

    /** Gives lots their class and why, as known in a year. */
    private static final class Assessor {
        private final Book book;

        Assessor(Book book) {
            this.book = book;
        }

        /**
         * A lot asks for the class of its mothers, and of its neighbours' mothers. All of these are tubes
         * or have lower numbers, so tubes first, then the others as they came, needs no recursion, which
         * a long row of mixed lots would drive too deep.
         */
        void assessUpTo(int number, int q) {
            for (int i = 0; i < book.lotCount; i++) {
                Lot lot = book.lotAt(i);
                if (lot != null && lot.sort == TUBE) {
                    assess(lot, q);
                }
            }
            for (int i = 0; i <= number && i < book.lotCount; i++) {
                Lot lot = book.lotAt(i);
                if (lot != null && lot.sort != TUBE) {
                    assess(lot, q);
                }
            }
        }

        int countOut(int q) {
            assessUpTo(book.lotCount - 1, q);
            int out = 0;
            for (int i = 0; i < book.lotCount; i++) {
                Lot lot = book.lotAt(i);
                if (lot != null && lot.rank == OUT) {
                    out++;
                }
            }
            return out;
        }

        private void assess(Lot lot, int q) {
            if (lot.isFalseAsKnownIn(q)) {
                lot.reason = WHY_FALSE;
            } else if (lot.rankOfMothers() == OUT) {
                lot.reason = WHY_MOTHER;
            } else {
                lot.reason = lot.sort == FIELD ? reasonInField(lot, q) : WHY_NONE;
            }
            int rankIfFit = lot.sort == FIELD ? lot.rankOfMothers() + 1 : lot.rankOfMothers();
            lot.rank = lot.reason == WHY_NONE ? rankIfFit : OUT;
        }

        private int reasonInField(Lot lot, int q) {
            if (lot.place == null) {
                return WHY_NONE;
            }
            if (isCrowded(lot, q)) {
                return WHY_CROWDED;
            }
            int years = book.inForce(YEARS_SINCE, lot.year, q);
            if (lot.place.stoodAheadOf(lot.year, years, lot.crop, q)) {
                return WHY_GROWN_BEFORE;
            }
            Look look = lot.lastLookAsKnownIn(q);
            int looks = look == null ? 0 : look.number;
            if (looks < book.inForce(LOOKS, lot.year, q)) {
                return WHY_FEW_LOOKS;
            }
            if (look != null && 1000L * look.ill > (long) book.inForce(ILLS, lot.year, q) * look.plants) {
                return WHY_ILL;
            }
            boolean pastLast = lot.rankOfMothers() + 1 > book.inForce(LAST_CLASS, lot.year, q);
            return pastLast ? WHY_LAST_CLASS : WHY_NONE;
        }

        private boolean isCrowded(Lot lot, int q) {
            int distance = book.inForce(DISTANCE, lot.year, q);
            for (int i = 0; i < book.fieldCount; i++) {
                Field other = book.fieldAt(i);
                if (other != null && other != lot.place && other.cropIn(lot.year, q) == lot.crop
                        && other.squareTo(lot.place) < distance * distance
                        && !isAsGood(other.grownIn(lot.year), lot)) {
                    return true;
                }
            }
            return false;
        }

        /** Where no lot is grown, the crop was only told, and counts as worse. */
        private boolean isAsGood(Lot neighbour, Lot lot) {
            return neighbour != null && neighbour.rankOfMothers() <= lot.rankOfMothers();
        }
    }

    /** Who came of whom. Mothers always have lower numbers than what came of them. */
    private static final class Kin {
        private final Book book;

        Kin(Book book) {
            this.book = book;
        }

        /** Counts for every lot the rows of mothers that lead from it to the origin. */
        void traceBelow(Lot origin) {
            for (int i = 0; i < book.lotCount; i++) {
                Lot lot = book.lotAt(i);
                if (lot != null) {
                    int lines = linesOf(lot.mother) + linesOf(lot.second);
                    lot.lines = lot == origin ? 1 : Math.min(MOST_WAYS, lines);
                }
            }
        }

        int buyersBelow(Lot origin) {
            traceBelow(origin);
            int bits = 0;
            for (int i = 0; i < book.bagCount; i++) {
                Bag bag = book.bagAt(i);
                if (bag != null && bag.isSold() && bag.lot.lines > 0) {
                    bits |= 1 << bag.buyer;
                }
            }
            return bits;
        }

        int touchedBy(Lot origin, int row, int place) {
            traceBelow(origin);
            markAbove(origin);
            markAkin(origin);
            int passed = 0;
            for (int i = 0; i < book.lotCount; i++) {
                Lot lot = book.lotAt(i);
                if (lot != null && rowOf(lot) == row) {
                    if (passed == place) {
                        return i;
                    }
                    passed++;
                }
            }
            return NONE;
        }

        private void markAbove(Lot origin) {
            for (int i = 0; i < book.lotCount; i++) {
                Lot lot = book.lotAt(i);
                if (lot != null) {
                    lot.above = false;
                }
            }
            for (int i = origin.number; i >= 0; i--) {
                Lot lot = book.lotAt(i);
                if (lot != null && (lot == origin || lot.above)) {
                    markOneAbove(lot.mother);
                    markOneAbove(lot.second);
                }
            }
        }

        private static void markOneAbove(Lot mother) {
            if (mother != null) {
                mother.above = true;
            }
        }

        private void markAkin(Lot origin) {
            for (int i = 0; i < book.lotCount; i++) {
                Lot lot = book.lotAt(i);
                if (lot != null) {
                    boolean isMother = lot == origin.mother || lot == origin.second;
                    lot.akin = isMother || isAkin(lot.mother) || isAkin(lot.second);
                }
            }
        }

        private static int rowOf(Lot lot) {
            if (lot.lines > 0) {
                return 0;
            }
            if (lot.above) {
                return 1;
            }
            return lot.akin ? 2 : NONE;
        }

        private static int linesOf(Lot lot) {
            return lot == null ? 0 : lot.lines;
        }

        private static boolean isAkin(Lot lot) {
            return lot != null && lot.akin;
        }
    }

    /** Finds fields for the wanted lots in the next year. Fields are bits in its masks. */
    private static final class Planner {
        private final Book book;
        private final Lot[] wanted = new Lot[PLAN_LOTS];
        private final int[] mayTake = new int[PLAN_LOTS];
        private final int[] tooNear = new int[PLAN_FIELDS];
        private final int[] going = new int[PLAN_LOTS];
        private final int[] best = new int[PLAN_LOTS];
        private int bestGone = NONE;
        int size = 0;

        Planner(Book book) {
            this.book = book;
        }

        void forgetAll() {
            size = 0;
        }

        int add(Lot lot) {
            if (size >= wanted.length) {
                return NONE;
            }
            for (int i = 0; i < size; i++) {
                if (wanted[i] == lot) {
                    return NONE;
                }
            }
            wanted[size] = lot;
            size++;
            return size;
        }

        int placeOf(int place) {
            if (place < 0 || place >= size || place >= best.length) {
                return NONE;
            }
            int next = book.now + 1;
            markMayTake(next, book.inForce(YEARS_SINCE, next, book.now));
            markTooNear(book.inForce(DISTANCE, next, book.now));
            bestGone = NONE;
            search(0, 0);
            return best[place];
        }

        private void markMayTake(int next, int years) {
            for (int i = 0; i < size && i < mayTake.length; i++) {
                Lot lot = wanted[i];
                mayTake[i] = 0;
                for (int f = 0; f < PLAN_FIELDS; f++) {
                    Field field = book.fieldAt(f);
                    if (lot != null && field != null
                            && !field.stoodAheadOf(next, years, lot.crop, book.now)) {
                        mayTake[i] |= 1 << f;
                    }
                }
            }
        }

        private void markTooNear(int distance) {
            for (int f = 0; f < tooNear.length; f++) {
                tooNear[f] = 0;
                Field field = book.fieldAt(f);
                for (int g = 0; g < tooNear.length; g++) {
                    Field other = book.fieldAt(g);
                    if (field != null && other != null && field.squareTo(other) < distance * distance) {
                        tooNear[f] |= 1 << g;
                    }
                }
            }
        }

        /** Tries lower fields first, so of the ways by which as many go the first one found is due. */
        private void search(int place, int gone) {
            if (place < 0 || gone + size - place <= bestGone) {
                return;
            }
            if (place >= size || place >= going.length) {
                bestGone = gone;
                System.arraycopy(going, 0, best, 0, best.length);
                return;
            }
            for (int f = 0; f < PLAN_FIELDS; f++) {
                if (fits(place, f)) {
                    going[place] = f;
                    search(place + 1, gone + 1);
                }
            }
            going[place] = NONE;
            search(place + 1, gone);
        }

        private boolean fits(int place, int field) {
            if (place < 0 || place >= mayTake.length || field < 0 || field >= tooNear.length
                    || (mayTake[place] >> field & 1) == 0) {
                return false;
            }
            for (int i = 0; i < place; i++) {
                int taken = going[i];
                if (taken == field) {
                    return false;
                }
                boolean isNear = taken != NONE && (tooNear[field] >> taken & 1) != 0;
                if (isNear && areOfOneCrop(wanted[i], wanted[place])) {
                    return false;
                }
            }
            return true;
        }

        private static boolean areOfOneCrop(Lot one, Lot other) {
            return one != null && other != null && one.crop == other.crop;
        }
    }
}
