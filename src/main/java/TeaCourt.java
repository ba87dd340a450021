import java.util.NoSuchElementException;

/**
 * A tea court: lots, bins, cups in sittings, scales by least squares, tastes, blends and the blend of
 * least cost. What each method does is said, promise by promise, in ../shared/DOC.md.
 *
 * <p>No call makes an object: all rows stand from the constructor on and are used again. All numbers are
 * exact: small ones in long, sums of fractions in {@link Sum}.
 */
public final class TeaCourt {
    public static final int NONE = -1;

    private static final int MOST_LOTS = 40;
    private static final int BINS = 12;
    private static final int TASTERS = 8;
    private static final int MARKS = 4;
    private static final int MOST_SITTINGS = 60;
    private static final int MOST_CUPS_OF_A_SITTING = 10;
    private static final int MOST_CUPS_OF_A_TASTER = 24;
    private static final int MOST_LOTS_OF_A_TASTER = 6;
    private static final int MOST_PARTS = 4;
    private static final int MOST_DEPTH = 2;
    private static final int MOST_CANDIDATES = 4;
    private static final int MOST_ACTS = 12;
    private static final int LAST_DAY = 9999;
    private static final int GREATEST_INT = 0x7fffffff;
    private static final int BITS_OF_MINUS_ZERO = 0x80000000;
    private static final int BITS_OF_INFINITY = 0x7f800000;
    private static final int LAST_TASTING_DAY = 19999;

    private static final int DUST = 1;
    private static final int ROLLED = 2;
    private static final int SMOKED = 3;
    private static final int AGED = 4;
    private static final int BLEND = 5;
    private static final int KIND_OF_A_CARD = 8;

    private static final int HOLDS_NOTHING = 0;
    private static final int HOLDS_LOT = 1;
    private static final int HOLDS_CARD = 2;

    private static final int DID_LOT = 0;
    private static final int DID_WEIGH = 1;
    private static final int DID_PUT = 2;
    private static final int DID_POUR = 3;
    private static final int DID_SIT = 4;
    private static final int DID_BLEND = 5;
    private static final int DID_WISH = 6;

    private final Lot[] lots = new Lot[MOST_LOTS];
    private int lotCount = 0;
    private final int[] binHolds = new int[BINS];
    private final int[] binNumber = new int[BINS];
    private final Taster[] tasters = new Taster[TASTERS];
    private final int[] sittingTaster = new int[MOST_SITTINGS];
    private final int[] sittingCups = new int[MOST_SITTINGS];
    private int sittings = 0;
    private int cups = 0;
    private final int[] partLot = new int[MOST_PARTS];
    private final int[] partSize = new int[MOST_PARTS];
    private int parts = 0;
    private final int[] lows = new int[MARKS];
    private final int[] highs = new int[MARKS];
    private final Acts acts = new Acts();
    private final Page page = new Page();
    private final Squares squares = new Squares();
    private final Sum sum = new Sum();
    private final Cheapest cheapest = new Cheapest();

    public TeaCourt() {
        for (int i = 0; i < lots.length; i++) {
            lots[i] = new Lot();
        }
        for (int i = 0; i < tasters.length; i++) {
            tasters[i] = new Taster();
        }
        for (int mark = 0; mark < lows.length; mark++) {
            // A least number above the greatest (0) stands for no WISH.
            lows[mark] = 1;
        }
    }

    // ---- lots and bins ----

    public int lot(int kind, int price, int day) throws IllegalArgumentException {
        if (!within(kind, 0, AGED) || !within(price, 0, 9999) || !within(day, 0, LAST_DAY)) {
            throw new IllegalArgumentException();
        }
        return addLot(DID_LOT, kind, price, day);
    }

    public int weigh(int lot, int bits) throws NoSuchElementException, IllegalArgumentException {
        Lot it = knownLot(lot);
        boolean number = isNumber(bits);
        if (number && bits < 0 && bits != BITS_OF_MINUS_ZERO) {
            throw new IllegalArgumentException();
        }
        acts.note(DID_WEIGH, lot, it.kilos, 0);
        it.kilos = number ? tenfold(bits) : NONE;
        return it.kilos;
    }

    public int put(int bin, int what, int n)
            throws IndexOutOfBoundsException, IllegalArgumentException, NoSuchElementException {
        needBin(bin);
        if (!within(what, HOLDS_NOTHING, HOLDS_CARD)) {
            throw new IllegalArgumentException();
        }
        if (what == HOLDS_LOT) {
            knownLot(n);
        }
        int before = kindInBin(bin);
        acts.note(DID_PUT, bin, at(binHolds, bin), at(binNumber, bin));
        fillBin(bin, what, what == HOLDS_NOTHING ? 0 : n);
        return before;
    }

    public int look(int bin) throws IndexOutOfBoundsException {
        needBin(bin);
        int holds = at(binHolds, bin);
        if (holds == HOLDS_LOT) {
            return at(binNumber, bin);
        }
        return holds == HOLDS_CARD ? -2 : -3;
    }

    public int card(int bin) throws IndexOutOfBoundsException {
        needBin(bin);
        return at(binHolds, bin) == HOLDS_CARD ? at(binNumber, bin) : 0;
    }

    public int about(int lot, int what) throws NoSuchElementException, IllegalArgumentException {
        Lot it = knownLot(lot);
        switch (what) {
            case 0:
                return it.kind;
            case 1:
                return it.price;
            case 2:
                return it.day;
            case 3:
                return it.kilos;
            case 4:
                return it.parts;
            case 5:
                return it.depth;
            default:
                throw new IllegalArgumentException();
        }
    }

    // ---- cups and what the tasters say ----

    public int sit(int taster) throws IndexOutOfBoundsException {
        knownTaster(taster);
        if (sittings >= MOST_SITTINGS) {
            return NONE;
        }
        set(sittingTaster, sittings, taster);
        set(sittingCups, sittings, 0);
        acts.note(DID_SIT, sittings, 0, 0);
        sittings++;
        return sittings - 1;
    }

    public int pour(int lot, int many, int steps)
            throws IllegalStateException, NoSuchElementException, IllegalArgumentException,
            UnsupportedOperationException {
        if (sittings < 1) {
            throw new IllegalStateException();
        }
        if (knownLot(lot).kind == BLEND) {
            throw new NoSuchElementException();
        }
        if (!within(many, NONE, MARKS) || !stepsAreSmall(many, steps)) {
            throw new IllegalArgumentException();
        }
        int sitting = sittings - 1;
        int cup = at(sittingCups, sitting);
        Taster who = tasterAt(at(sittingTaster, sitting));
        if (who == null || cup >= MOST_CUPS_OF_A_SITTING || !who.canTake(lot)) {
            throw new UnsupportedOperationException();
        }
        who.take(lot, many, steps, sitting);
        set(sittingCups, sitting, cup + 1);
        cups++;
        acts.note(DID_POUR, lot, 0, 0);
        return cup;
    }

    public int count(int what) {
        switch (what) {
            case 0:
                return lotCount;
            case 1:
                return sittings;
            case 2:
                return cups;
            case 3:
                return parts;
            case 4:
                return page.length;
            case 5:
                return acts.kept;
            default:
                return NONE;
        }
    }

    public int taster(int taster, int what) throws IndexOutOfBoundsException, IllegalArgumentException {
        Taster who = knownTaster(taster);
        if (!within(what, 0, 3)) {
            throw new IllegalArgumentException();
        }
        who.learn(squares, sum);
        switch (what) {
            case 0:
                return who.trust;
            case 1:
                return who.loops;
            case 2:
                return who.cups;
            default:
                return who.steps;
        }
    }

    public int hangs(int taster, int mark, int lot) throws IndexOutOfBoundsException, NoSuchElementException {
        Taster who = knownTaster(taster);
        needMark(mark);
        knownLot(lot);
        who.learn(squares, sum);
        return who.headOf(mark, lot);
    }

    public int scale(int taster, int mark, int lot) throws IndexOutOfBoundsException, NoSuchElementException {
        Taster who = knownTaster(taster);
        needMark(mark);
        knownLot(lot);
        who.learn(squares, sum);
        if (who.headOf(mark, lot) == NONE) {
            return NONE;
        }
        sum.begin();
        sum.add(who.numberOf(mark, lot), at(who.below, mark));
        return sum.print(page);
    }

    public int agree(int taster) throws IndexOutOfBoundsException {
        Taster who = knownTaster(taster);
        who.learn(squares, sum);
        who.sumMisfits(sum);
        return sum.print(page);
    }

    public int middle(int lot, int mark) throws NoSuchElementException, IndexOutOfBoundsException {
        knownLot(lot);
        needMark(mark);
        learnAll();
        if (trustIn(lot, mark) == 0) {
            return NONE;
        }
        sum.begin();
        addMiddle(lot, mark, 1, 1);
        return sum.print(page);
    }

    // ---- tastes ----

    public int taste(int lot, int mark, int day)
            throws NoSuchElementException, IndexOutOfBoundsException, IllegalArgumentException {
        knownLot(lot);
        needMark(mark);
        if (!within(day, 0, LAST_TASTING_DAY)) {
            throw new IllegalArgumentException();
        }
        learnAll();
        sum.begin();
        addTaste(lot, mark, day, 1, 1, 0);
        return sum.print(page);
    }

    public int stale(int lot, int n) throws NoSuchElementException, IllegalArgumentException {
        Lot it = knownLot(lot);
        if (!within(n, 0, 99)) {
            throw new IllegalArgumentException();
        }
        // Days only add to what AGED leaves differ by, so the first such day is found by halving; the
        // widest step reaches beyond the day from which no leaf changes any more.
        int fresh = it.day;
        for (int step = 8192; step > 0; step /= 2) {
            if (!differs(lot, n, fresh + step)) {
                fresh += step;
            }
        }
        return differs(lot, n, fresh + 1) ? fresh + 1 : NONE;
    }

    // ---- parts, blends, wishes, the blend of least cost ----

    public int part(int lot, int parts) throws NoSuchElementException, IllegalArgumentException {
        knownLot(lot);
        if (!within(parts, 1, 1000)) {
            throw new IllegalArgumentException();
        }
        if (this.parts >= MOST_PARTS) {
            return NONE;
        }
        set(partLot, this.parts, lot);
        set(partSize, this.parts, parts);
        this.parts++;
        return this.parts;
    }

    public int blend(int day) throws IllegalStateException, IllegalArgumentException {
        int depth = 1 + deepestPart();
        if (parts < 1 || depth > MOST_DEPTH) {
            throw new IllegalStateException();
        }
        if (!within(day, 0, LAST_DAY)) {
            throw new IllegalArgumentException();
        }
        int number = addLot(DID_BLEND, BLEND, priceOfParts(), day);
        Lot fresh = lotAt(number);
        if (fresh == null) {
            return NONE;
        }
        fresh.mix(partLot, partSize, parts, depth);
        parts = 0;
        return number;
    }

    public void wish(int mark, int low, int high) throws IndexOutOfBoundsException, IllegalArgumentException {
        needMark(mark);
        if (!within(low, -9999, 9999) || !within(high, -9999, 9999)) {
            throw new IllegalArgumentException();
        }
        acts.note(DID_WISH, mark, at(lows, mark), at(highs, mark));
        set(lows, mark, low);
        set(highs, mark, high);
    }

    public int least(int day, int kilos) throws IllegalArgumentException {
        if (!within(day, 0, LAST_TASTING_DAY) || !within(kilos, 1, 10000)) {
            throw new IllegalArgumentException();
        }
        learnAll();
        gatherCandidates();
        cheapest.limit(kilos);
        for (int mark = 0; mark < MARKS; mark++) {
            if (at(lows, mark) <= at(highs, mark)) {
                tasteCandidates(mark, day);
                cheapest.limitTastes(at(lows, mark), at(highs, mark));
            }
        }
        if (!cheapest.find()) {
            return NONE;
        }
        sum.begin();
        sum.add(cheapest.bestCost(), cheapest.below());
        sum.print(page);
        return cheapest.found;
    }

    public int share(int k) {
        if (!cheapest.there || !within(k, 0, cheapest.found - 1)) {
            return NONE;
        }
        sum.begin();
        sum.add(cheapest.bestShare(k), cheapest.below());
        return sum.print(page);
    }

    // ---- undo and the page ----

    public int undo() {
        int code = acts.code();
        switch (code) {
            case DID_LOT:
            case DID_BLEND:
                removeLatestLot();
                break;
            case DID_WEIGH:
                unweigh(acts.place(), acts.first());
                break;
            case DID_PUT:
                fillBin(acts.place(), acts.first(), acts.second());
                break;
            case DID_POUR:
                removeLatestCup();
                break;
            case DID_SIT:
                sittings--;
                break;
            case DID_WISH:
                set(lows, acts.place(), acts.first());
                set(highs, acts.place(), acts.second());
                break;
            default:
                return NONE;
        }
        acts.drop();
        return code;
    }

    public int octet(int k) {
        return page.byteAt(k);
    }

    // ---- what the calls above are made of ----

    private static boolean within(int n, int low, int high) {
        return low <= n && n <= high;
    }

    private static int at(int[] row, int i) {
        return i >= 0 && i < row.length ? row[i] : 0;
    }

    private static long at(long[] row, int i) {
        return i >= 0 && i < row.length ? row[i] : 0;
    }

    private static void set(int[] row, int i, int n) {
        if (i >= 0 && i < row.length) {
            row[i] = n;
        }
    }

    private static void set(long[] row, int i, long n) {
        if (i >= 0 && i < row.length) {
            row[i] = n;
        }
    }

    /** The greatest common divisor of two numbers from 0 on; 1 if both are 0, so that it always divides. */
    private static long commonDivisor(long a, long b) {
        for (int turn = 0; turn < 200 && b > 0; turn++) {
            long rest = a % b;
            a = b;
            b = rest;
        }
        return a > 0 ? a : 1;
    }

    /** Whether a float's bits are a number at all. */
    private static boolean isNumber(int bits) {
        return (bits & GREATEST_INT) <= BITS_OF_INFINITY;
    }

    /** A float (by its bits, not below 0) times 10, rounded to a float as the machine would, and cut. */
    private static int tenfold(int bits) {
        int exponent = (bits >>> 23) & 255;
        int mantissa = bits & 0x7fffff;
        long product = 10L * (exponent == 0 ? mantissa : mantissa | 0x800000);
        int spare = 0;
        while (spare < 8 && product >> spare >= 1 << 24) {
            spare++;
        }
        long kept = product >> spare;
        long lost = product - (kept << spare);
        long half = spare == 0 ? 1 : 1L << (spare - 1);
        if (lost > half || lost == half && (kept & 1) == 1) {
            kept++;
        }
        int shift = Math.max(exponent, 1) - 150 + spare;
        long whole = shift < 0 ? kept >> Math.min(-shift, 62) : kept << Math.min(shift, 32);
        return (int) Math.min(whole, GREATEST_INT);
    }

    /** The STEP for a MARK: one of the four bytes of steps, the highest first. */
    private static int stepFor(int mark, int steps) {
        return (byte) (steps >> (24 - 8 * mark));
    }

    private static boolean stepsAreSmall(int many, int steps) {
        for (int mark = 0; mark < many && mark < MARKS; mark++) {
            if (!within(stepFor(mark, steps), -60, 60)) {
                return false;
            }
        }
        return true;
    }

    private Lot lotAt(int number) {
        return number >= 0 && number < lotCount && number < lots.length ? lots[number] : null;
    }

    private Lot knownLot(int number) {
        Lot it = lotAt(number);
        if (it == null) {
            throw new NoSuchElementException();
        }
        return it;
    }

    private Taster tasterAt(int number) {
        return number >= 0 && number < tasters.length ? tasters[number] : null;
    }

    private Taster knownTaster(int number) {
        Taster who = tasterAt(number);
        if (who == null) {
            throw new IndexOutOfBoundsException();
        }
        return who;
    }

    private static void needMark(int mark) {
        if (!within(mark, 0, MARKS - 1)) {
            throw new IndexOutOfBoundsException();
        }
    }

    private static void needBin(int bin) {
        if (!within(bin, 0, BINS - 1)) {
            throw new IndexOutOfBoundsException();
        }
    }

    private int addLot(int act, int kind, int price, int day) {
        if (lotCount >= MOST_LOTS) {
            return NONE;
        }
        lotCount++;
        Lot fresh = lotAt(lotCount - 1);
        if (fresh != null) {
            fresh.begin(kind, price, day);
        }
        acts.note(act, lotCount - 1, 0, 0);
        return lotCount - 1;
    }

    private int kindInBin(int bin) {
        int holds = at(binHolds, bin);
        if (holds == HOLDS_CARD) {
            return KIND_OF_A_CARD;
        }
        Lot it = holds == HOLDS_LOT ? lotAt(at(binNumber, bin)) : null;
        return it == null ? NONE : it.kind;
    }

    private void fillBin(int bin, int holds, int number) {
        set(binHolds, bin, holds);
        set(binNumber, bin, number);
    }

    private void unweigh(int number, int kilos) {
        Lot it = lotAt(number);
        if (it != null) {
            it.kilos = kilos;
        }
    }

    private void removeLatestCup() {
        int sitting = sittings - 1;
        Taster who = tasterAt(at(sittingTaster, sitting));
        if (who != null) {
            who.giveBack();
        }
        set(sittingCups, sitting, at(sittingCups, sitting) - 1);
        cups--;
    }

    /** Nothing but a PART can still name the latest LOT: whatever else does was done later and is undone. */
    private void removeLatestLot() {
        lotCount--;
        int kept = 0;
        for (int i = 0; i < parts; i++) {
            if (at(partLot, i) != lotCount) {
                set(partLot, kept, at(partLot, i));
                set(partSize, kept, at(partSize, i));
                kept++;
            }
        }
        parts = kept;
    }

    private int deepestPart() {
        int deepest = 0;
        for (int i = 0; i < parts; i++) {
            Lot it = lotAt(at(partLot, i));
            if (it != null) {
                deepest = Math.max(deepest, it.depth);
            }
        }
        return deepest;
    }

    private int priceOfParts() {
        int worth = 0;
        int size = 0;
        for (int i = 0; i < parts; i++) {
            Lot it = lotAt(at(partLot, i));
            if (it != null) {
                worth += it.price * at(partSize, i);
                size += at(partSize, i);
            }
        }
        return size > 0 ? worth / size : 0;
    }

    private void learnAll() {
        for (int i = 0; i < TASTERS; i++) {
            Taster who = tasterAt(i);
            if (who != null) {
                who.learn(squares, sum);
            }
        }
    }

    /** The sum of TRUSTS of those for whom a LOT HANGS TOGETHER with LOT 0; 0 if it has no MIDDLE. */
    private long trustIn(int lot, int mark) {
        long trust = 0;
        for (int i = 0; i < TASTERS; i++) {
            Taster who = tasterAt(i);
            if (who != null && who.headOf(mark, lot) == 0) {
                trust += who.trust;
            }
        }
        return trust;
    }

    /** Adds above / below times the MIDDLE. (LOT 0 is the least wherever it hangs: its SCALE is 0.) */
    private void addMiddle(int lot, int mark, long above, long below) {
        long trust = trustIn(lot, mark);
        if (trust == 0) {
            return;
        }
        for (int i = 0; i < TASTERS; i++) {
            Taster who = tasterAt(i);
            if (who != null && who.headOf(mark, lot) == 0) {
                sum.add(above * who.trust * who.numberOf(mark, lot), below * trust * at(who.below, mark));
            }
        }
    }

    /** Adds above / below times the TASTE. */
    private void addTaste(int lot, int mark, int day, long above, long below, int depth) {
        Lot it = lotAt(lot);
        if (it == null || depth > MOST_DEPTH) {
            return;
        }
        if (it.kind == BLEND) {
            addPartsOf(it, mark, day, above, below, depth);
            return;
        }
        boolean strong = it.kind == DUST && mark == 0;
        addMiddle(lot, mark, strong ? 3 * above : above, strong ? 2 * below : below);
        if (it.kind >= ROLLED && mark == 1) {
            sum.add(above, below);
        }
        if (it.kind == SMOKED && mark == 3) {
            sum.add(3 * above, below);
        }
        if (it.kind == AGED && mark == 2) {
            sum.add(above * it.months(day), 4 * below);
        }
        if (it.kind == AGED && mark == 0) {
            sum.add(-above * it.months(day), 8 * below);
        }
    }

    private void addPartsOf(Lot it, int mark, int day, long above, long below, int depth) {
        long all = it.sizeOfParts();
        long smoked = 0;
        for (int i = 0; i < it.parts; i++) {
            int size = at(it.partSize, i);
            addTaste(at(it.partLot, i), mark, day, above * size, below * all, depth + 1);
            Lot inside = lotAt(at(it.partLot, i));
            if (inside != null && inside.kind == SMOKED) {
                smoked += size;
            }
        }
        if (mark == 3) {
            sum.add(above * smoked, below * all);
        }
    }

    /** MARK 2 changes with the days, MARK 0 half as much, the others not: so MARK 2 alone tells. */
    private boolean differs(int lot, int n, int day) {
        Lot it = lotAt(lot);
        if (it == null) {
            return false;
        }
        sum.begin();
        addAgeing(lot, it.day, day, 1, 1, 0);
        return sum.isAbove(n);
    }

    /** Adds above / below times what the TASTE for MARK 2 gains from one day to another. */
    private void addAgeing(int lot, int from, int to, long above, long below, int depth) {
        Lot it = lotAt(lot);
        if (it == null || depth > MOST_DEPTH) {
            return;
        }
        if (it.kind == AGED) {
            sum.add(above * (it.months(to) - it.months(from)), 4 * below);
        }
        long all = it.sizeOfParts();
        for (int i = 0; i < it.parts; i++) {
            addAgeing(at(it.partLot, i), from, to, above * at(it.partSize, i), below * all, depth + 1);
        }
    }

    private void gatherCandidates() {
        cheapest.begin();
        for (int bin = 0; bin < BINS; bin++) {
            Lot it = at(binHolds, bin) == HOLDS_LOT ? lotAt(at(binNumber, bin)) : null;
            if (it != null && it.kilos > 0 && it.kind != SMOKED) {
                cheapest.offer(at(binNumber, bin), it.price, it.kilos);
            }
        }
    }

    private void tasteCandidates(int mark, int day) {
        for (int k = 0; k < cheapest.found; k++) {
            sum.begin();
            addTaste(at(cheapest.numbers, k), mark, day, 1, 1, 0);
            set(cheapest.tenths, k, sum.tenths());
        }
    }

    /** A LOT of any KIND; the parts are of a BLEND alone. */
    private static final class Lot {
        int kind = 0;
        int price = 0;
        int day = 0;
        int kilos = NONE;
        int parts = 0;
        int depth = 0;
        final int[] partLot = new int[MOST_PARTS];
        final int[] partSize = new int[MOST_PARTS];

        void begin(int ofKind, int ofPrice, int ofDay) {
            kind = ofKind;
            price = ofPrice;
            day = ofDay;
            kilos = NONE;
            parts = 0;
            depth = 0;
        }

        void mix(int[] lotOf, int[] sizeOf, int many, int deep) {
            for (int i = 0; i < many; i++) {
                set(partLot, i, at(lotOf, i));
                set(partSize, i, at(sizeOf, i));
            }
            parts = many;
            depth = deep;
        }

        int sizeOfParts() {
            int all = 0;
            for (int i = 0; i < parts; i++) {
                all += at(partSize, i);
            }
            return all;
        }

        /** The whole 30 days that count for an AGED one. */
        int months(int on) {
            return Math.max(0, Math.min(12, (on - day) / 30));
        }
    }

    /** The bytes printed last. */
    private static final class Page {
        private final byte[] bytes = new byte[400];
        int length = 0;

        void clear() {
            length = 0;
        }

        void write(int letter) {
            if (length >= 0 && length < bytes.length) {
                bytes[length] = (byte) letter;
                length++;
            }
        }

        int byteAt(int k) {
            return k >= 0 && k < length && k < bytes.length ? bytes[k] : NONE;
        }
    }

    /** The latest acts, in a ring: a new one takes the place of the oldest. */
    private static final class Acts {
        private final int[] codes = new int[MOST_ACTS];
        private final int[] places = new int[MOST_ACTS];
        private final int[] firsts = new int[MOST_ACTS];
        private final int[] seconds = new int[MOST_ACTS];
        private int latest = 0;
        int kept = 0;

        /** What was done, where, and one or two numbers that stood there. */
        void note(int code, int place, int first, int second) {
            latest = (latest + 1) % MOST_ACTS;
            set(codes, latest, code);
            set(places, latest, place);
            set(firsts, latest, first);
            set(seconds, latest, second);
            kept = Math.min(kept + 1, MOST_ACTS);
        }

        int code() {
            return kept > 0 ? at(codes, latest) : NONE;
        }

        int place() {
            return at(places, latest);
        }

        int first() {
            return at(firsts, latest);
        }

        int second() {
            return at(seconds, latest);
        }

        void drop() {
            latest = (latest + MOST_ACTS - 1) % MOST_ACTS;
            kept = Math.max(kept - 1, 0);
        }
    }

    /** A TASTER: the cups, and what follows from them once it has been asked for. */
    private static final class Taster {
        private final int[] cupLot = new int[MOST_CUPS_OF_A_TASTER];
        private final int[] cupMany = new int[MOST_CUPS_OF_A_TASTER];
        private final int[] cupSteps = new int[MOST_CUPS_OF_A_TASTER];
        private final int[] cupSitting = new int[MOST_CUPS_OF_A_TASTER];
        int cups = 0;
        /** The LOTS of the cups, the least number first: a LOT's place here stands for it below. */
        private final int[] names = new int[MOST_LOTS_OF_A_TASTER];
        private int named = 0;
        /** For each MARK and place the place of the least LOT that it HANGS TOGETHER with, or NONE. */
        private final int[] heads = new int[MARKS * MOST_LOTS_OF_A_TASTER];
        /** The SCALE: for each MARK and place a number, to be divided by what stands below for the MARK. */
        private final long[] above = new long[MARKS * MOST_LOTS_OF_A_TASTER];
        final long[] below = new long[MARKS];
        private final long[] misfits = new long[MARKS];
        int steps = 0;
        int loops = 0;
        int trust = 1;
        private boolean learned = false;

        boolean canTake(int lot) {
            return cups < MOST_CUPS_OF_A_TASTER && (named < MOST_LOTS_OF_A_TASTER || placeOf(lot) != NONE);
        }

        void take(int lot, int many, int row, int sitting) {
            set(cupLot, cups, lot);
            set(cupMany, cups, many);
            set(cupSteps, cups, row);
            set(cupSitting, cups, sitting);
            cups++;
            nameLots();
        }

        void giveBack() {
            cups--;
            nameLots();
        }

        private void nameLots() {
            learned = false;
            named = 0;
            for (int cup = 0; cup < cups; cup++) {
                if (placeOf(at(cupLot, cup)) == NONE) {
                    nameLot(at(cupLot, cup));
                }
            }
        }

        private void nameLot(int lot) {
            int place = named;
            for (int i = named; i > 0 && at(names, i - 1) > lot; i--) {
                set(names, i, at(names, i - 1));
                place = i - 1;
            }
            set(names, place, lot);
            named++;
        }

        private int placeOf(int lot) {
            for (int i = 0; i < named && i < names.length; i++) {
                if (names[i] == lot) {
                    return i;
                }
            }
            return NONE;
        }

        /** The least LOT that a LOT HANGS TOGETHER with; NONE if it is in no STEP. */
        int headOf(int mark, int lot) {
            int place = placeOf(lot);
            int head = place == NONE ? NONE : at(heads, mark * MOST_LOTS_OF_A_TASTER + place);
            return head == NONE ? NONE : at(names, head);
        }

        long numberOf(int mark, int lot) {
            int place = placeOf(lot);
            return place == NONE ? 0 : at(above, mark * MOST_LOTS_OF_A_TASTER + place);
        }

        void sumMisfits(Sum sum) {
            sum.begin();
            for (int mark = 0; mark < MARKS; mark++) {
                sum.add(at(misfits, mark), at(below, mark));
            }
        }

        void learn(Squares squares, Sum sum) {
            if (learned) {
                return;
            }
            steps = 0;
            loops = 0;
            for (int mark = 0; mark < MARKS; mark++) {
                squares.begin();
                readSteps(mark, squares);
                squares.solve();
                keep(mark, squares);
            }
            sumMisfits(sum);
            trust = loops == 0 ? 1 : Math.max(1, 60 / (1 + Math.max(0, sum.whole())));
            learned = true;
        }

        private void readSteps(int mark, Squares squares) {
            boolean open = false;
            for (int cup = 0; cup < cups; cup++) {
                boolean first = cup == 0 || at(cupSitting, cup - 1) != at(cupSitting, cup);
                // A ROW that is missing has less than no STEPS: it ends the SITTING for each MARK.
                open = first || open && at(cupMany, cup) > mark;
                if (open && !first) {
                    int from = placeOf(at(cupLot, cup - 1));
                    int to = placeOf(at(cupLot, cup));
                    squares.step(from, to, stepFor(mark, at(cupSteps, cup)));
                }
            }
        }

        private void keep(int mark, Squares squares) {
            for (int i = 0; i < MOST_LOTS_OF_A_TASTER; i++) {
                set(heads, mark * MOST_LOTS_OF_A_TASTER + i, at(squares.heads, i));
                set(above, mark * MOST_LOTS_OF_A_TASTER + i, squares.above(i));
            }
            set(below, mark, squares.below);
            set(misfits, mark, squares.misfit());
            steps += squares.steps;
            loops += squares.loops();
        }
    }

    /**
     * The least squares for one TASTER and MARK. The places' numbers solve rows of whole numbers, which are
     * cleared without fractions (Bareiss): each entry stays a minor of the rows at first, so a long holds it.
     */
    private static final class Squares {
        private static final int SIZE = MOST_LOTS_OF_A_TASTER;
        private static final int WIDTH = SIZE + 1;
        private final long[] rows = new long[SIZE * WIDTH];
        private final long[] pulls = new long[SIZE];
        final int[] heads = new int[SIZE];
        int steps = 0;
        long below = 1;
        private long squares = 0;

        void begin() {
            for (int i = 0; i < rows.length; i++) {
                rows[i] = 0;
            }
            for (int i = 0; i < SIZE; i++) {
                set(pulls, i, 0);
                set(heads, i, NONE);
            }
            steps = 0;
            squares = 0;
        }

        void step(int from, int to, int d) {
            steps++;
            squares += (long) d * d;
            join(from, to);
            if (from != to) {
                raise(from, from, 1);
                raise(to, to, 1);
                raise(from, to, -1);
                raise(to, from, -1);
                set(pulls, to, at(pulls, to) + d);
                set(pulls, from, at(pulls, from) - d);
            }
        }

        private void raise(int row, int column, long by) {
            set(rows, row * WIDTH + column, at(rows, row * WIDTH + column) + by);
        }

        private void join(int from, int to) {
            int one = at(heads, from) == NONE ? from : at(heads, from);
            int other = at(heads, to) == NONE ? to : at(heads, to);
            int head = Math.min(one, other);
            for (int i = 0; i < SIZE; i++) {
                boolean joins = i == from || i == to || at(heads, i) == one || at(heads, i) == other;
                if (joins) {
                    set(heads, i, head);
                }
            }
        }

        void solve() {
            for (int i = 0; i < SIZE; i++) {
                set(rows, i * WIDTH + SIZE, at(pulls, i));
            }
            for (int i = 0; i < SIZE; i++) {
                if (at(heads, i) == NONE || at(heads, i) == i) {
                    fixAtZero(i);
                }
            }
            below = 1;
            for (int k = 0; k < SIZE; k++) {
                long pivot = at(rows, k * WIDTH + k);
                for (int i = 0; i < SIZE; i++) {
                    if (i != k) {
                        clear(i, k, pivot);
                    }
                }
                below = pivot;
            }
        }

        /** What a head or a LOT in no STEP is: its number is 0, and no other row asks for it. */
        private void fixAtZero(int place) {
            for (int i = 0; i < SIZE; i++) {
                set(rows, place * WIDTH + i, 0);
                set(rows, i * WIDTH + place, 0);
            }
            set(rows, place * WIDTH + SIZE, 0);
            set(rows, place * WIDTH + place, 1);
        }

        private void clear(int i, int k, long pivot) {
            long lead = at(rows, i * WIDTH + k);
            for (int j = 0; j < WIDTH && below != 0; j++) {
                long entry = pivot * at(rows, i * WIDTH + j) - lead * at(rows, k * WIDTH + j);
                set(rows, i * WIDTH + j, entry / below);
            }
        }

        long above(int place) {
            return at(rows, place * WIDTH + SIZE);
        }

        /** The least SUM, to be divided by what stands below. */
        long misfit() {
            long rest = squares * below;
            for (int i = 0; i < SIZE; i++) {
                rest -= at(pulls, i) * above(i);
            }
            return rest;
        }

        int loops() {
            int many = steps;
            for (int i = 0; i < SIZE; i++) {
                if (at(heads, i) != NONE && at(heads, i) != i) {
                    many--;
                }
            }
            return many;
        }
    }

    /** A whole number from 0 on, of up to 160 digits: four of them in each figure, the lowest first. */
    private static final class Whole {
        private static final int BASE = 10000;
        private final int[] figures = new int[40];
        private int used = 0;

        void setTo(long n) {
            long left = n;
            used = 0;
            for (int i = 0; i < figures.length && left > 0; i++) {
                figures[i] = (int) (left % BASE);
                left /= BASE;
                used = i + 1;
            }
        }

        void copy(Whole other) {
            used = other.used;
            for (int i = 0; i < used; i++) {
                set(figures, i, at(other.figures, i));
            }
        }

        void times(long factor) {
            long carry = 0;
            for (int i = 0; i < figures.length && (i < used || carry > 0); i++) {
                long n = carry + (i < used ? figures[i] * factor : 0);
                figures[i] = (int) (n % BASE);
                carry = n / BASE;
                used = Math.max(used, i + 1);
            }
            trim();
        }

        /** Divides, and cuts; what is left over stands in the answer. */
        long over(long divisor) {
            long rest = 0;
            for (int i = used - 1; i >= 0 && divisor > 0; i--) {
                rest = rest * BASE + at(figures, i);
                set(figures, i, (int) (rest / divisor));
                rest %= divisor;
            }
            trim();
            return rest;
        }

        long rest(long divisor) {
            long rest = 0;
            for (int i = used - 1; i >= 0 && divisor > 0; i--) {
                rest = (rest * BASE + at(figures, i)) % divisor;
            }
            return rest;
        }

        void plus(Whole other) {
            int carry = 0;
            for (int i = 0; i < figures.length && (i < used || i < other.used || carry > 0); i++) {
                int n = carry + figureAt(i) + other.figureAt(i);
                figures[i] = n % BASE;
                carry = n / BASE;
                used = Math.max(used, i + 1);
            }
        }

        /** Takes away one that is not greater. */
        void minus(Whole other) {
            int carry = 0;
            for (int i = 0; i < used; i++) {
                int n = figureAt(i) - other.figureAt(i) - carry;
                carry = n < 0 ? 1 : 0;
                set(figures, i, n + carry * BASE);
            }
            trim();
        }

        /** Below 0, 0 or above 0, as this is less than, as much as or more than the other. */
        int against(Whole other) {
            for (int i = Math.max(used, other.used) - 1; i >= 0; i--) {
                if (figureAt(i) != other.figureAt(i)) {
                    return figureAt(i) < other.figureAt(i) ? -1 : 1;
                }
            }
            return 0;
        }

        boolean isOne() {
            return used == 1 && at(figures, 0) == 1;
        }

        void print(Page page) {
            boolean begun = false;
            for (int i = used - 1; i >= 0; i--) {
                int figure = at(figures, i);
                for (int unit = BASE / 10; unit > 0; unit /= 10) {
                    int digit = figure / unit % 10;
                    begun = begun || digit > 0;
                    if (begun) {
                        page.write('0' + digit);
                    }
                }
            }
            if (!begun) {
                page.write('0');
            }
        }

        private int figureAt(int i) {
            return i >= 0 && i < used && i < figures.length ? figures[i] : 0;
        }

        private void trim() {
            for (int i = used - 1; i >= 0 && i < figures.length && figures[i] == 0; i--) {
                used = i;
            }
        }
    }

    /**
     * A sum of fractions: (gains - losses) / below. What was added below is kept factor by factor, so that
     * the lowest terms are found by dividing through small numbers alone.
     */
    private static final class Sum {
        private final Whole gains = new Whole();
        private final Whole losses = new Whole();
        private final Whole below = new Whole();
        private final Whole spare = new Whole();
        private final long[] factors = new long[200];
        private int factored = 0;

        void begin() {
            gains.setTo(0);
            losses.setTo(0);
            below.setTo(1);
            factored = 0;
        }

        void add(long n, long d) {
            if (n == 0 || d <= 0) {
                return;
            }
            long common = commonDivisor(below.rest(d), d);
            long factor = d / common;
            spare.copy(below);
            spare.over(common);
            spare.times(Math.abs(n));
            gains.times(factor);
            losses.times(factor);
            below.times(factor);
            if (n > 0) {
                gains.plus(spare);
            } else {
                losses.plus(spare);
            }
            if (factor > 1) {
                set(factors, factored, factor);
                factored++;
            }
        }

        /** Takes the lesser of gains and losses from both; whether a loss is left. */
        private boolean settle() {
            boolean lost = gains.against(losses) < 0;
            if (lost) {
                losses.minus(gains);
                gains.setTo(0);
            } else {
                gains.minus(losses);
                losses.setTo(0);
            }
            return lost;
        }

        int print(Page page) {
            boolean lost = settle();
            Whole above = lost ? losses : gains;
            for (int i = 0; i < factored; i++) {
                long factor = at(factors, i);
                long common = commonDivisor(above.rest(factor), factor);
                above.over(common);
                below.over(common);
            }
            page.clear();
            if (lost) {
                page.write('-');
            }
            above.print(page);
            if (!below.isOne()) {
                page.write('/');
                below.print(page);
            }
            return page.length;
        }

        /** The sum, not below 0, cut to a whole number (30 bits at most). */
        int whole() {
            settle();
            int whole = 0;
            for (int bit = 1 << 29; bit > 0; bit /= 2) {
                spare.copy(below);
                spare.times(whole + bit);
                if (spare.against(gains) <= 0) {
                    whole += bit;
                }
            }
            return whole;
        }

        boolean isAbove(int n) {
            settle();
            spare.copy(below);
            spare.times(n);
            return gains.against(spare) > 0;
        }

        /** Ten times the sum and a half, the greatest whole number not above. A TASTE lies within 1000 of 0. */
        int tenths() {
            add(1000, 1);
            settle();
            gains.times(20);
            gains.plus(below);
            below.times(2);
            return whole() - 10000;
        }
    }

    /**
     * The blend of least cost of up to four LOTS. The last share is 1 less the others, so each limit is a
     * row in three shares: their multiples together not above a number. The best is a corner, at which
     * three rows hold with nothing to spare: all corners are tried. LOTS that are not there have no KILOS.
     */
    private static final class Cheapest {
        private static final int MOST_ROWS = 16;
        private static final int LAST = MOST_CANDIDATES - 1;
        int found = 0;
        boolean there = false;
        final int[] numbers = new int[MOST_CANDIDATES];
        final int[] tenths = new int[MOST_CANDIDATES];
        private final int[] prices = new int[MOST_CANDIDATES];
        private final int[] kilos = new int[MOST_CANDIDATES];
        private final int[] multiples = new int[MOST_CANDIDATES];
        private final long[] limits = new long[MOST_ROWS * MOST_CANDIDATES];
        private int rows = 0;
        /** The shares at a corner and, last, what they are to be divided by; likewise at the best one. */
        private final long[] corner = new long[MOST_CANDIDATES + 1];
        private final long[] best = new long[MOST_CANDIDATES + 1];

        void begin() {
            found = 0;
            there = false;
            rows = 0;
            for (int k = 0; k < MOST_CANDIDATES; k++) {
                set(prices, k, 0);
                set(kilos, k, 0);
                set(tenths, k, 0);
            }
        }

        void offer(int number, int price, int weight) {
            for (int k = 0; k < found; k++) {
                if (at(numbers, k) == number) {
                    return;
                }
            }
            if (found < MOST_CANDIDATES) {
                set(numbers, found, number);
                set(prices, found, price);
                set(kilos, found, weight);
                found++;
            }
        }

        /** No share below 0, and none of the KILOS wanted above its LOT's. */
        void limit(int wanted) {
            for (int k = 0; k < MOST_CANDIDATES; k++) {
                limitShare(k, -1, 0);
                if (at(kilos, k) < wanted) {
                    limitShare(k, wanted, at(kilos, k));
                }
            }
        }

        private void limitShare(int k, int multiple, int limit) {
            for (int i = 0; i < MOST_CANDIDATES; i++) {
                set(multiples, i, i == k ? multiple : 0);
            }
            addRow(limit);
        }

        void limitTastes(int low, int high) {
            for (int i = 0; i < MOST_CANDIDATES; i++) {
                set(multiples, i, at(tenths, i));
            }
            addRow(high);
            for (int i = 0; i < MOST_CANDIDATES; i++) {
                set(multiples, i, -at(tenths, i));
            }
            addRow(-low);
        }

        private void addRow(int limit) {
            int last = at(multiples, LAST);
            for (int i = 0; i < LAST; i++) {
                set(limits, rows * MOST_CANDIDATES + i, at(multiples, i) - last);
            }
            set(limits, rows * MOST_CANDIDATES + LAST, limit - last);
            rows++;
        }

        boolean find() {
            for (int i = 0; i < rows; i++) {
                for (int j = i + 1; j < rows; j++) {
                    for (int k = j + 1; k < rows; k++) {
                        tryCorner(i, j, k);
                    }
                }
            }
            return there;
        }

        private void tryCorner(int i, int j, int k) {
            long all = determinant(i, j, k, NONE);
            if (all == 0) {
                return;
            }
            long sign = all < 0 ? -1 : 1;
            long left = all * sign;
            set(corner, MOST_CANDIDATES, left);
            for (int column = 0; column < LAST; column++) {
                long x = determinant(i, j, k, column) * sign;
                set(corner, column, x);
                left -= x;
            }
            set(corner, LAST, left);
            if (keepsLimits() && (!there || isBetter())) {
                there = true;
                for (int n = 0; n < corner.length; n++) {
                    set(best, n, at(corner, n));
                }
            }
        }

        /** Of three rows; in the place of one column, if it is named, stand the limits. */
        private long determinant(int i, int j, int k, int column) {
            int a = column == 0 ? LAST : 0;
            int b = column == 1 ? LAST : 1;
            int c = column == 2 ? LAST : 2;
            return entry(i, a) * (entry(j, b) * entry(k, c) - entry(j, c) * entry(k, b))
                    - entry(i, b) * (entry(j, a) * entry(k, c) - entry(j, c) * entry(k, a))
                    + entry(i, c) * (entry(j, a) * entry(k, b) - entry(j, b) * entry(k, a));
        }

        private long entry(int row, int column) {
            return at(limits, row * MOST_CANDIDATES + column);
        }

        private boolean keepsLimits() {
            for (int row = 0; row < rows; row++) {
                long reached = 0;
                for (int i = 0; i < LAST; i++) {
                    reached += entry(row, i) * at(corner, i);
                }
                if (reached > entry(row, LAST) * at(corner, MOST_CANDIDATES)) {
                    return false;
                }
            }
            return true;
        }

        /** Of less cost than the best so far, or of as much and with a greater share first. */
        private boolean isBetter() {
            int order = -ordered(costOf(corner), at(corner, MOST_CANDIDATES), bestCost(), below());
            for (int k = 0; k < MOST_CANDIDATES && order == 0; k++) {
                order = ordered(at(corner, k), at(corner, MOST_CANDIDATES), bestShare(k), below());
            }
            return order > 0;
        }

        private long costOf(long[] shares) {
            long cost = 0;
            for (int k = 0; k < MOST_CANDIDATES; k++) {
                cost += at(prices, k) * at(shares, k);
            }
            return cost;
        }

        long bestCost() {
            return costOf(best);
        }

        long bestShare(int k) {
            return at(best, k);
        }

        long below() {
            return at(best, MOST_CANDIDATES);
        }

        /**
         * The order of a / b and c / d (none below 0, b and d above): the whole numbers in them tell, or
         * what is left of them, turned upside down. (A long would not hold a times d.)
         */
        private static int ordered(long a, long b, long c, long d) {
            for (int turn = 0; turn < 200 && b > 0 && d > 0; turn++) {
                if (a / b != c / d) {
                    return a / b < c / d ? -1 : 1;
                }
                long one = a % b;
                long other = c % d;
                if (one == 0 || other == 0) {
                    return Long.compare(one, other);
                }
                a = d;
                c = b;
                b = other;
                d = one;
            }
            return 0;
        }
    }
}
