import java.util.NoSuchElementException;

/** Promises 1 (a new object), 2 (lot), 3 (weigh) and 7 (about). */
public final class LotsTest {
    private static TeaCourt court;

    private static void aNewObjectIsEmpty() {
        court = new TeaCourt();
        Check.due("NONE", -1, TeaCourt.NONE);
        for (int what = 0; what <= 5; what++) {
            Check.due("count(" + what + ") of a new object", 0, court.count(what));
        }
        for (int bin = 0; bin < 12; bin++) {
            Check.due("look(" + bin + ") of a new object", -3, court.look(bin));
            Check.due("card(" + bin + ") of a new object", 0, court.card(bin));
        }
        for (int taster = 0; taster < 8; taster++) {
            Check.due("trust of a new taster", 1, court.taster(taster, 0));
            Check.due("loops of a new taster", 0, court.taster(taster, 1));
            Check.due("cups of a new taster", 0, court.taster(taster, 2));
            Check.due("steps of a new taster", 0, court.taster(taster, 3));
        }
        Check.due("octet(0) of a new object", -1, court.octet(0));
        Check.due("share(0) of a new object", -1, court.share(0));
        Check.due("undo() of a new object", -1, court.undo());
        Check.refused("blend() of a new object", IllegalStateException.class, () -> court.blend(0));
        Check.refused("pour() of a new object", IllegalStateException.class, () -> court.pour(0, 0, 0));
        // No wish: whatever a lot tastes of, it may be the blend.
        court.lot(4, 77, 0);
        court.weigh(0, Float.floatToIntBits(1));
        court.put(0, 1, 0);
        Check.printed("least() without a wish", court, "77", court.least(360, 10) == 1 ? 2 : -1);
    }

    private static void lotsAreNumberedUpToForty() {
        court = new TeaCourt();
        for (int i = 0; i < 40; i++) {
            Check.due("lot number", i, court.lot(i % 5, i * 7, 9999 - i));
        }
        for (int i = 0; i < 40; i++) {
            Check.due("kind of " + i, i % 5, court.about(i, 0));
            Check.due("price of " + i, i * 7, court.about(i, 1));
            Check.due("day of " + i, 9999 - i, court.about(i, 2));
            Check.due("kilos of " + i, -1, court.about(i, 3));
            Check.due("parts of " + i, 0, court.about(i, 4));
            Check.due("depth of " + i, 0, court.about(i, 5));
        }
        Check.due("a 41st lot", -1, court.lot(0, 0, 0));
        Check.due("lots behind it", 40, court.count(0));
        Check.refused("a 41st lot of no kind", IllegalArgumentException.class, () -> court.lot(5, 0, 0));
        Check.refused("about lot 40", NoSuchElementException.class, () -> court.about(40, 0));
        Check.due("undo() takes the 40th", 0, court.undo());
        Check.due("a 40th lot again", 39, court.lot(1, 2, 3));
    }

    private static void lotsAreRefused() {
        court = new TeaCourt();
        int[][] wrong = {{-1, 0, 0}, {5, 0, 0}, {6, 0, 0}, {Integer.MIN_VALUE, 0, 0}, {0, -1, 0}, {0, 10000, 0},
            {0, Integer.MAX_VALUE, 0}, {0, 0, -1}, {0, 0, 10000}, {0, 0, Integer.MIN_VALUE}};
        for (int[] w : wrong) {
            Check.refused("lot(" + w[0] + ", " + w[1] + ", " + w[2] + ")", IllegalArgumentException.class,
                    () -> court.lot(w[0], w[1], w[2]));
        }
        Check.due("lots behind refused ones", 0, court.count(0));
        Check.due("acts behind refused ones", 0, court.count(5));
        Check.due("the least of all", 0, court.lot(0, 0, 0));
        Check.due("the greatest of all", 1, court.lot(4, 9999, 9999));
    }

    private static void weighed(String what, int due, int bits) {
        Check.due("weigh " + what, due, court.weigh(0, bits));
        Check.due("kilos behind it", due, court.about(0, 3));
    }

    private static void lotsAreWeighed() {
        court = new TeaCourt();
        court.lot(0, 0, 0);
        weighed("12.34", 123, Float.floatToIntBits(12.34f));
        weighed("0.09", 0, Float.floatToIntBits(0.09f));
        weighed("0.1", 1, Float.floatToIntBits(0.1f));
        weighed("just below 0.1", 0, Float.floatToIntBits(0.1f) - 1);
        // Ten times 0.7 is 7 only because it is rounded to a float; of the double it would be 6.99...
        weighed("0.7", 7, Float.floatToIntBits(0.7f));
        weighed("1000", 10000, Float.floatToIntBits(1000f));
        weighed("0", 0, 0);
        weighed("-0", 0, 0x80000000);
        weighed("no number", -1, 0x7fc00000);
        weighed("7", 70, Float.floatToIntBits(7f));
        weighed("another no number", -1, 0x7f800001);
        weighed("a no number with a sign", -1, 0xffc00000);
        weighed("all bits", -1, -1);
        weighed("the least above 0", 0, 1);
        weighed("the greatest", 2147483647, 0x7f7fffff);
        weighed("more than all", 2147483647, 0x7f800000);
        weighed("214748364.8", 2147483647, Float.floatToIntBits(214748364.8f));
        weighed("214748352", 2147483520, Float.floatToIntBits(214748352f));
        weighed("16777215 (rounded up)", 167772144, Float.floatToIntBits(16777215f));
    }

    /** The float times ten as the machine does it. */
    private static void anyFloatIsWeighed() {
        int bits = 0;
        for (int i = 0; i < 200000; i++) {
            bits = bits * 1103515245 + 12345;
            int mine = i % 3 == 0 ? bits & 0x7fffffff : (bits >>> 4) % 0x0a000000 + 0x3b000000;
            float f = Float.intBitsToFloat(mine);
            if (i % 500 == 0) {
                court = new TeaCourt();
                court.lot(0, 0, 0);
            }
            int due = Float.isNaN(f) ? -1 : (int) (f * 10f);
            Check.due("weigh " + f, due, court.weigh(0, mine));
        }
    }

    private static void weighingIsRefused() {
        court = new TeaCourt();
        Check.refused("weigh no lot", NoSuchElementException.class, () -> court.weigh(0, 0));
        court.lot(0, 0, 0);
        Check.refused("weigh lot -1", NoSuchElementException.class, () -> court.weigh(-1, 0));
        Check.refused("weigh lot 1 below 0", NoSuchElementException.class, () -> court.weigh(1, 0xbf800000));
        court.weigh(0, Float.floatToIntBits(5f));
        for (int bits : new int[] {0xbf800000, 0x80000001, 0xff7fffff, 0xff800000}) {
            Check.refused("weigh " + bits, IllegalArgumentException.class, () -> court.weigh(0, bits));
        }
        Check.due("kilos behind refused ones", 50, court.about(0, 3));
        Check.due("acts behind refused ones", 2, court.count(5));
    }

    private static void aboutIsRefused() {
        court = new TeaCourt();
        Check.refused("about no lot", NoSuchElementException.class, () -> court.about(0, 0));
        Check.refused("about no lot and no what", NoSuchElementException.class, () -> court.about(0, 9));
        court.lot(0, 0, 0);
        Check.refused("about -1", IllegalArgumentException.class, () -> court.about(0, -1));
        Check.refused("about 6", IllegalArgumentException.class, () -> court.about(0, 6));
        Check.refused("about lot -1", NoSuchElementException.class, () -> court.about(-1, 0));
        Check.refused("about lot 1", NoSuchElementException.class, () -> court.about(1, 0));
    }

    private static void aboutABlend() {
        court = new TeaCourt();
        court.lot(0, 10, 0);
        court.part(0, 5);
        court.part(0, 6);
        court.part(0, 7);
        court.blend(44);
        int[] due = {5, 10, 44, -1, 3, 1};
        for (int what = 0; what < 6; what++) {
            Check.due("about(1, " + what + ")", due[what], court.about(1, what));
        }
        Check.due("a blend is weighed", 20, court.weigh(1, Float.floatToIntBits(2f)));
        Check.due("kilos of a blend", 20, court.about(1, 3));
    }

    public static void main(String[] args) {
        aNewObjectIsEmpty();
        lotsAreNumberedUpToForty();
        lotsAreRefused();
        lotsAreWeighed();
        anyFloatIsWeighed();
        weighingIsRefused();
        aboutIsRefused();
        aboutABlend();
        Check.end();
    }
}
