import java.util.function.ToIntFunction;

/** Runs of calls drawn from a fixed row of numbers: the program and the oracle answer alike. */
public final class OracleTest {
    private static final int MOST_CALLS = 512;

    private final TeaCourt court = new TeaCourt();
    private final Oracle oracle = new Oracle();
    private final StringBuilder story = new StringBuilder();
    private long seed;
    private int calls = 0;
    private boolean right = true;
    private int lotsNamed;
    private int tastersNamed;
    private int stepSize;
    private int manyKind;
    private boolean wrongInputs;

    private OracleTest(long seed) {
        this.seed = seed * 7919 + 17;
        for (int i = 0; i < 5; i++) {
            draw(10);
        }
    }

    private int draw(int below) {
        seed = seed * 6364136223846793005L + 1442695040888963407L;
        return (int) ((seed >>> 33) % below);
    }

    private int between(int low, int high) {
        return low + draw(high - low + 1);
    }

    private void both(String call, java.util.function.IntSupplier ours, java.util.function.IntSupplier due) {
        if (!right || calls >= MOST_CALLS) {
            return;
        }
        calls++;
        Object got = Check.answer(ours);
        Object want = Check.answer(due);
        story.append(call).append(" = ").append(want).append('\n');
        if (!got.equals(want)) {
            right = false;
            System.out.print(story);
        }
        Check.same(call, want, got);
    }

    private void page() {
        int length = oracle.count(4);
        both("count(4)", () -> court.count(4), () -> oracle.count(4));
        for (int k = 0; k <= length; k++) {
            int at = k;
            both("octet(" + k + ")", () -> court.octet(at), () -> oracle.octet(at));
        }
    }

    private int anyLot() {
        return wrongInputs && draw(12) == 0 ? between(-2, 41) : between(0, lotsNamed - 1);
    }

    private int aTaster() {
        return wrongInputs && draw(20) == 0 ? (draw(2) == 0 ? -1 : 8) : draw(tastersNamed);
    }

    private int aMark() {
        return wrongInputs && draw(20) == 0 ? (draw(2) == 0 ? -1 : 4) : draw(4);
    }

    private int aStep() {
        return wrongInputs && draw(60) == 0 ? (draw(2) == 0 ? -61 : 61) : between(-stepSize, stepSize);
    }

    private int aRow() {
        return (aStep() & 255) << 24 | (aStep() & 255) << 16 | (aStep() & 255) << 8 | aStep() & 255;
    }

    private int howMany() {
        if (wrongInputs && draw(20) == 0) {
            return between(-2, 5);
        }
        return draw(manyKind) == 0 ? between(-1, 4) : 4;
    }

    private void lot() {
        int kind = wrongInputs && draw(15) == 0 ? between(-1, 5) : draw(3) == 0 ? 4 : draw(5);
        int price = wrongInputs && draw(15) == 0 ? (draw(2) == 0 ? -1 : 10000) : draw(4) == 0 ? draw(10000) : draw(6);
        int day = wrongInputs && draw(15) == 0 ? (draw(2) == 0 ? -1 : 10000) : draw(3) == 0 ? draw(10000) : draw(400);
        both("lot(" + kind + ", " + price + ", " + day + ")",
                () -> court.lot(kind, price, day), () -> oracle.lot(kind, price, day));
    }

    private void weigh() {
        int lot = anyLot();
        int how = draw(10);
        int bits = how < 7 ? Float.floatToIntBits(draw(4000) / 7f)
                : how < 8 ? Float.floatToIntBits(draw(2000000000) / 10f)
                : how < 9 ? (int) (seed >>> 20) : (int) (seed >>> 20) & 0x7fffffff;
        both("weigh(" + lot + ", " + bits + ")", () -> court.weigh(lot, bits), () -> oracle.weigh(lot, bits));
    }

    private void put() {
        int bin = wrongInputs && draw(15) == 0 ? (draw(2) == 0 ? -1 : 12) : draw(12);
        int what = wrongInputs && draw(15) == 0 ? between(-1, 3) : draw(8) == 0 ? draw(3) : 1;
        int n = what == 2 ? (int) (seed >>> 20) : anyLot();
        both("put(" + bin + ", " + what + ", " + n + ")", () -> court.put(bin, what, n), () -> oracle.put(bin, what, n));
        if (draw(3) == 0) {
            both("look(" + bin + ")", () -> court.look(bin), () -> oracle.look(bin));
            both("card(" + bin + ")", () -> court.card(bin), () -> oracle.card(bin));
        }
    }

    private void about() {
        int lot = anyLot();
        int what = between(-1, 6);
        both("about(" + lot + ", " + what + ")", () -> court.about(lot, what), () -> oracle.about(lot, what));
    }

    private void sit() {
        int taster = aTaster();
        both("sit(" + taster + ")", () -> court.sit(taster), () -> oracle.sit(taster));
    }

    private void pour() {
        int lot = anyLot();
        int many = howMany();
        int row = aRow();
        both("pour(" + lot + ", " + many + ", " + row + ")",
                () -> court.pour(lot, many, row), () -> oracle.pour(lot, many, row));
    }

    private void count() {
        int what = between(-1, 6);
        both("count(" + what + ")", () -> court.count(what), () -> oracle.count(what));
    }

    private void told() {
        int taster = aTaster();
        int mark = aMark();
        int lot = anyLot();
        int what = between(wrongInputs ? -1 : 0, wrongInputs ? 4 : 3);
        both("taster(" + taster + ", " + what + ")",
                () -> court.taster(taster, what), () -> oracle.taster(taster, what));
        both("hangs(" + taster + ", " + mark + ", " + lot + ")",
                () -> court.hangs(taster, mark, lot), () -> oracle.hangs(taster, mark, lot));
        both("scale(" + taster + ", " + mark + ", " + lot + ")",
                () -> court.scale(taster, mark, lot), () -> oracle.scale(taster, mark, lot));
        page();
        both("agree(" + taster + ")", () -> court.agree(taster), () -> oracle.agree(taster));
        page();
    }

    private void tasted() {
        int lot = anyLot();
        int mark = aMark();
        int day = wrongInputs && draw(15) == 0 ? (draw(2) == 0 ? -1 : 20000) : draw(2) == 0 ? draw(20000) : draw(700);
        both("middle(" + lot + ", " + mark + ")", () -> court.middle(lot, mark), () -> oracle.middle(lot, mark));
        page();
        both("taste(" + lot + ", " + mark + ", " + day + ")",
                () -> court.taste(lot, mark, day), () -> oracle.taste(lot, mark, day));
        page();
    }

    private void stale() {
        int lot = anyLot();
        int n = wrongInputs && draw(15) == 0 ? (draw(2) == 0 ? -1 : 100) : draw(4);
        both("stale(" + lot + ", " + n + ")", () -> court.stale(lot, n), () -> oracle.stale(lot, n));
    }

    private void part() {
        int lot = anyLot();
        int size = wrongInputs && draw(15) == 0 ? (draw(2) == 0 ? 0 : 1001) : draw(2) == 0 ? between(1, 1000) : between(1, 6);
        both("part(" + lot + ", " + size + ")", () -> court.part(lot, size), () -> oracle.part(lot, size));
    }

    private void blend() {
        int day = wrongInputs && draw(15) == 0 ? (draw(2) == 0 ? -1 : 10000) : draw(700);
        both("blend(" + day + ")", () -> court.blend(day), () -> oracle.blend(day));
    }

    private void wish() {
        int mark = aMark();
        int low = wrongInputs && draw(15) == 0 ? (draw(2) == 0 ? -10000 : 10000) : between(-60, 40);
        int high = wrongInputs && draw(15) == 0 ? (draw(2) == 0 ? -10000 : 10000) : low + between(-10, 60);
        both("wish(" + mark + ", " + low + ", " + high + ")", () -> {
            court.wish(mark, low, high);
            return 0;
        }, () -> oracle.wish(mark, low, high));
    }

    private void least() {
        int day = wrongInputs && draw(15) == 0 ? (draw(2) == 0 ? -1 : 20000) : draw(700);
        int kilos = wrongInputs && draw(15) == 0 ? (draw(2) == 0 ? 0 : 10001) : draw(3) == 0 ? between(1, 10000) : between(1, 3000);
        both("least(" + day + ", " + kilos + ")", () -> court.least(day, kilos), () -> oracle.least(day, kilos));
        page();
        for (int k = draw(3) - 1; k < 4; k++) {
            int which = k;
            both("share(" + k + ")", () -> court.share(which), () -> oracle.share(which));
            if (draw(2) == 0) {
                page();
            }
        }
    }

    private void undo() {
        for (int left = between(1, draw(6) == 0 ? 14 : 2); left > 0; left--) {
            both("undo()", court::undo, oracle::undo);
        }
    }

    private boolean run() {
        lotsNamed = between(1, draw(3) == 0 ? 40 : 9);
        tastersNamed = between(1, 8);
        stepSize = draw(3) == 0 ? 60 : between(0, 9);
        manyKind = between(1, 12);
        wrongInputs = draw(2) == 0;
        int[] weights = new int[14];
        for (int i = 0; i < weights.length; i++) {
            weights[i] = draw(3) == 0 ? 0 : between(1, 20);
        }
        for (int i = between(0, 42); i > 0; i--) {
            lot();
        }
        for (int i = draw(3) == 0 ? 0 : between(0, 90); i > 0; i--) {
            if (draw(6) == 0) {
                sit();
            }
            pour();
        }
        for (int i = draw(2) * draw(30); i > 0; i--) {
            weigh();
            put();
        }
        Runnable[] acts = {this::lot, this::weigh, this::put, this::about, this::sit, this::pour, this::count,
            this::told, this::tasted, this::stale, this::part, this::blend, this::wish, this::least};
        int all = 1;
        for (int weight : weights) {
            all += weight;
        }
        for (int turn = 0; turn < 600 && calls < MOST_CALLS && right; turn++) {
            int left = draw(all + all / 8 + 1);
            int which = 0;
            while (which < weights.length && left >= weights[which]) {
                left -= weights[which];
                which++;
            }
            if (which < weights.length) {
                acts[which].run();
            } else {
                undo();
            }
        }
        return right;
    }

    /** One taster's cups: what the lots truly are, and up to so much beside it. */
    private void tell(int taster, int[] truths, int noise, int cups) {
        int[] names = new int[6];
        for (int i = 0; i < 6; i++) {
            names[i] = i == 0 && draw(5) > 0 ? 0 : draw(lotsNamed);
        }
        int ahead = 0;
        int inSitting = 10;
        int most = 10;
        for (int i = 0; i < cups; i++) {
            int lot = names[draw(6)];
            if (inSitting >= most) {
                both("sit(" + taster + ")", () -> court.sit(taster), () -> oracle.sit(taster));
                inSitting = 0;
                most = draw(3) == 0 ? between(2, 10) : 10;
            }
            int row = 0;
            for (int mark = 0; mark < 4; mark++) {
                int step = truths[lot * 4 + mark] - truths[ahead * 4 + mark];
                step += draw(3) == 0 ? between(-noise, noise) : 0;
                row = row << 8 | Math.max(-60, Math.min(60, step)) & 255;
            }
            int pouredRow = row;
            int many = draw(12) == 0 ? howMany() : 4;
            both("pour(" + lot + ", " + many + ", " + row + ")",
                    () -> court.pour(lot, many, pouredRow), () -> oracle.pour(lot, many, pouredRow));
            inSitting++;
            ahead = lot;
        }
    }

    private void mix(int lots, int most, int sizes) {
        for (int i = between(1, 4); i > 0; i--) {
            int lot = draw(4) == 0 ? Math.max(0, lots - 1 - draw(4)) : draw(Math.max(1, lots));
            int size = between(1, draw(2) == 0 ? most : sizes);
            both("part(" + lot + ", " + size + ")", () -> court.part(lot, size), () -> oracle.part(lot, size));
        }
        blend();
    }

    /** Tasters who mostly agree, blends of what they tasted, and wishes near what there is. */
    private boolean runRich() {
        lotsNamed = between(2, 16);
        tastersNamed = between(1, 8);
        stepSize = 60;
        manyKind = 2;
        wrongInputs = false;
        int spread = draw(2) == 0 ? 30 : between(1, 5);
        int[] truths = new int[lotsNamed * 4];
        for (int i = 0; i < truths.length; i++) {
            truths[i] = between(0, spread);
        }
        for (int i = 0; i < lotsNamed; i++) {
            lot();
        }
        int noise = draw(3) == 0 ? 60 : draw(3);
        int cups = draw(2) == 0 ? 24 : between(2, 24);
        for (int taster = 0; taster < tastersNamed; taster++) {
            tell(taster, truths, noise, cups);
        }
        int sizes = draw(2) == 0 ? 1000 : 5;
        for (int i = between(0, 6); i > 0; i--) {
            mix(oracle.count(0), 1000, sizes);
        }
        lotsNamed = oracle.count(0);
        for (int i = 0; i < 4; i++) {
            told();
            tasted();
            stale();
        }
        for (int turn = 0; turn < 8; turn++) {
            for (int i = 0; i < 5; i++) {
                weigh();
                put();
            }
            int mark = draw(4);
            int low = between(-spread * 10, spread * 10 + 30);
            int high = low + between(-5, 15 * spread);
            both("wish(" + mark + ", " + low + ", " + high + ")", () -> {
                court.wish(mark, low, high);
                return 0;
            }, () -> oracle.wish(mark, low, high));
            least();
            tasted();
            if (draw(4) == 0) {
                undo();
            }
        }
        return right;
    }

    public static void main(String[] args) {
        int from = args.length > 0 ? Integer.parseInt(args[0]) : 0;
        int to = args.length > 1 ? Integer.parseInt(args[1]) : 400;
        for (int i = from; i < to; i++) {
            OracleTest test = new OracleTest(i);
            if (!(i % 3 == 0 ? test.runRich() : test.run())) {
                System.out.println("run " + i);
                break;
            }
        }
        Check.end();
    }
}
