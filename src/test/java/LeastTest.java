/** Promises 20 (wish), 21 (least) and 22 (share). */
public final class LeastTest {
    private static TeaCourt court;

    private static void lot(int kind, int price, int tenths) {
        int number = court.lot(kind, price, 0);
        court.weigh(number, Float.floatToIntBits(tenths / 10f));
        court.put(number, 1, number);
    }

    private static void found(int day, int kilos, int many, String cost, String... shares) {
        int got = court.least(day, kilos);
        String what = "least(" + day + ", " + kilos + ")";
        Check.due(what, many, got);
        Check.same(what + " printed", cost, Check.page(court));
        for (int k = 0; k < shares.length; k++) {
            Check.printed("share(" + k + ") of " + what, court, shares[k], court.share(k));
        }
        noShare(-1);
        noShare(shares.length);
    }

    private static void noShare(int k) {
        String before = Check.page(court);
        Check.due("share(" + k + ")", -1, court.share(k));
        Check.same("the page behind it", before, Check.page(court));
    }

    private static void notFound(int day, int kilos) {
        String before = Check.page(court);
        Check.due("least(" + day + ", " + kilos + ")", -1, court.least(day, kilos));
        Check.same("the page behind it", before, Check.page(court));
        noShare(0);
    }

    private static void theCheapestAreTaken() {
        court = new TeaCourt();
        notFound(0, 1);
        lot(0, 20, 1000);
        found(0, 1000, 1, "20", "1");
        notFound(0, 1001);
        lot(0, 10, 40);
        found(0, 40, 2, "10", "0", "1");
        found(0, 100, 2, "16", "3/5", "2/5");
        found(0, 1040, 2, "255/13", "25/26", "1/26");
        notFound(0, 1041);
        lot(0, 5, 30);
        lot(0, 10, 30);
        found(0, 100, 4, "17/2", "0", "2/5", "3/10", "3/10");
        found(0, 90, 4, "25/3", "0", "4/9", "1/3", "2/9");
        notFound(0, 10000);
    }

    private static void ofSeveralTheFirstShareIsGreatest() {
        court = new TeaCourt();
        for (int i = 0; i < 5; i++) {
            lot(0, 7, 10 + i);
        }
        found(0, 8, 4, "7", "1", "0", "0", "0");
        found(0, 20, 4, "7", "1/2", "1/2", "0", "0");
        found(0, 30, 4, "7", "1/3", "11/30", "3/10", "0");
        found(0, 46, 4, "7", "5/23", "11/46", "6/23", "13/46");
        notFound(0, 47);
        court.wish(1, -5, 5);
        found(0, 20, 4, "7", "1/2", "1/2", "0", "0");
    }

    private static void wishesAreKept() {
        court = new TeaCourt();
        lot(0, 10, 1000);
        lot(2, 20, 1000);
        found(0, 10, 2, "10", "1", "0");
        court.wish(1, 5, 9999);
        found(0, 10, 2, "15", "1/2", "1/2");
        court.wish(1, 11, 9999);
        notFound(0, 10);
        court.wish(1, 10, 10);
        found(0, 10, 2, "20", "0", "1");
        court.wish(1, -9999, -1);
        notFound(0, 10);
        court.wish(1, 1, 0);
        found(0, 10, 2, "10", "1", "0");
        court.wish(1, 3, 4);
        court.wish(0, 0, 0);
        court.wish(2, -1, 1);
        court.wish(3, 0, 9999);
        found(0, 10, 2, "13", "7/10", "3/10");
        court.wish(3, 1, 9999);
        notFound(0, 10);
        court.wish(3, 9999, -9999);
        found(0, 10, 2, "13", "7/10", "3/10");
        // A greatest number matters as well.
        court.weigh(0, Float.floatToIntBits(0.5f));
        court.wish(1, 1, 0);
        found(0, 10, 2, "15", "1/2", "1/2");
        court.wish(1, 0, 4);
        notFound(0, 10);
    }

    private static void tenthsAreRounded() {
        court = new TeaCourt();
        lot(4, 10, 1000);
        // MARK 2: 1/4 a month, as tenths 5/2 and a half: 3. MARK 0: -1/8, -5/4 and a half: -1.
        int[] days = {0, 29, 30, 60, 90, 120, 360, 19999};
        int[] third = {0, 0, 3, 5, 8, 10, 30, 30};
        int[] first = {0, 0, -1, -2, -4, -5, -15, -15};
        for (int i = 0; i < days.length; i++) {
            exactly(0, days[i], first[i]);
            exactly(1, days[i], 10);
            exactly(2, days[i], third[i]);
            exactly(3, days[i], 0);
        }
    }

    private static void exactly(int mark, int day, int tenths) {
        court.wish(mark, tenths, tenths);
        Check.due("least on " + day + " for " + mark + " at " + tenths, 1, court.least(day, 10));
        court.undo();
        court.wish(mark, tenths + 1, 9999);
        Check.due("least on " + day + " for " + mark + " above " + tenths, -1, court.least(day, 10));
        court.undo();
        court.wish(mark, -9999, tenths - 1);
        Check.due("least on " + day + " for " + mark + " below " + tenths, -1, court.least(day, 10));
        court.undo();
    }

    private static void whoTakesPart() {
        court = new TeaCourt();
        court.lot(0, 1, 0);
        court.put(0, 1, 0);
        notFound(0, 1);
        court.weigh(0, Float.floatToIntBits(0.05f));
        notFound(0, 1);
        court.weigh(0, Float.floatToIntBits(0.1f));
        found(0, 1, 1, "1", "1");
        court.weigh(0, 0x7fc00000);
        notFound(0, 1);
        court.weigh(0, 0x7f800000);
        found(0, 10000, 1, "1", "1");
        court.put(0, 2, 0);
        notFound(0, 1);
        // SMOKED ones take no part, blends of them do.
        court.lot(3, 2, 0);
        court.weigh(1, Float.floatToIntBits(10f));
        court.put(1, 1, 1);
        notFound(0, 1);
        court.part(1, 1);
        court.blend(0);
        court.put(2, 1, 2);
        notFound(0, 1);
        court.weigh(2, Float.floatToIntBits(10f));
        found(0, 100, 1, "2", "1");
        court.wish(3, 40, 40);
        found(0, 100, 1, "2", "1");
    }

    private static void theyStandInTheOrderOfTheBins() {
        court = new TeaCourt();
        for (int i = 0; i < 6; i++) {
            court.lot(0, 10 * (i + 1), 0);
            court.weigh(i, Float.floatToIntBits(1f));
        }
        court.put(11, 1, 0);
        court.put(3, 1, 5);
        court.put(4, 1, 5);
        court.put(5, 1, 2);
        court.put(6, 2, 1);
        found(0, 30, 3, "100/3", "1/3", "1/3", "1/3");
        found(0, 20, 3, "20", "0", "1/2", "1/2");
        found(0, 10, 3, "10", "0", "0", "1");
        court.put(7, 1, 4);
        court.put(8, 1, 5);
        court.put(9, 1, 3);
        // LOTS 5, 2, 4 and 3 fill it: LOT 0 lies behind them.
        found(0, 20, 4, "35", "0", "1/2", "0", "1/2");
        found(0, 40, 4, "45", "1/4", "1/4", "1/4", "1/4");
        court.put(0, 1, 1);
        found(0, 20, 4, "25", "1/2", "0", "1/2", "0");
    }

    /** LEAST alone is asked, ahead of any other call that would read the cups. */
    private static void theLatestCupIsKnown() {
        court = new TeaCourt();
        court.lot(0, 9, 0);
        lot(0, 10, 1000);
        lot(0, 20, 1000);
        court.wish(2, 10, 9999);
        notFound(0, 10);
        court.sit(0);
        court.pour(0, -1, 0);
        court.pour(2, 3, CupsTest.row(0, 0, 4, 0));
        found(0, 10, 2, "25/2", "3/4", "1/4");
        court.pour(1, 3, CupsTest.row(0, 0, -2, 0));
        found(0, 10, 2, "10", "1", "0");
        court.wish(2, 35, 35);
        found(0, 10, 2, "35/2", "1/4", "3/4");
        court.undo();
        court.undo();
        found(0, 10, 2, "25/2", "3/4", "1/4");
    }

    /** Costs between two whole numbers, at two ends of what the limits leave: the less one is found. */
    private static void costsNextToEachOther() {
        for (int wanted = 2; wanted < 40; wanted++) {
            for (int first = 1; first < wanted && first < 8; first++) {
                for (int dearer = 0; dearer < 2; dearer++) {
                    court = new TeaCourt();
                    lot(0, 5 + dearer, first);
                    lot(2, 6 - dearer, wanted - 1);
                    // The first's share: from 1 / wanted to first / wanted, and (MARK 1) from 3 / 10 to 1.
                    court.wish(1, 0, 7);
                    boolean there = 10 * first >= 3 * wanted;
                    if (!there) {
                        notFound(0, wanted);
                    } else if (dearer == 0) {
                        Ratio most = Ratio.of(first, wanted);
                        found(0, wanted, 2, Ratio.of(6).minus(most) + "", most + "", Ratio.ONE.minus(most) + "");
                    } else {
                        Ratio cap = Ratio.of(1, wanted);
                        Ratio less = cap.compareTo(Ratio.of(3, 10)) < 0 ? Ratio.of(3, 10) : cap;
                        found(0, wanted, 2, Ratio.of(5).plus(less) + "", less + "", Ratio.ONE.minus(less) + "");
                    }
                }
            }
        }
    }

    private static void theLatestSharesStay() {
        court = new TeaCourt();
        lot(0, 10, 10);
        lot(0, 20, 10);
        found(0, 15, 2, "40/3", "2/3", "1/3");
        court.put(0, 0, 0);
        court.weigh(1, 0);
        court.wish(0, 5, 5);
        court.undo();
        Check.printed("a share stays", court, "2/3", court.share(0));
        for (int i = 0; i < 8; i++) {
            court.undo();
        }
        Check.due("no lots", 0, court.count(0));
        Check.printed("a share stays without lots", court, "1/3", court.share(1));
        Check.refused("least on no day", IllegalArgumentException.class, () -> court.least(-1, 1));
        Check.printed("a refused one changes nothing", court, "2/3", court.share(0));
        notFound(0, 1);
    }

    private static void wrongOnesAreRefused() {
        court = new TeaCourt();
        for (int mark : new int[] {-1, 4, Integer.MAX_VALUE}) {
            Check.refused("wish for " + mark, IndexOutOfBoundsException.class, () -> wished(mark, 0, 0));
            Check.refused("wrong wish for " + mark, IndexOutOfBoundsException.class, () -> wished(mark, 10000, 0));
        }
        int[][] wrong = {{-10000, 0}, {10000, 0}, {0, -10000}, {0, 10000}, {Integer.MIN_VALUE, 0}, {0, Integer.MAX_VALUE}};
        for (int[] w : wrong) {
            Check.refused("wish " + w[0] + " to " + w[1], IllegalArgumentException.class, () -> wished(0, w[0], w[1]));
        }
        Check.due("acts behind refused ones", 0, court.count(5));
        Check.due("the widest", 0, wished(3, -9999, 9999));
        Check.due("none", 0, wished(0, 9999, -9999));
        Check.due("acts", 2, court.count(5));
        lot(0, 10, 10000);
        for (int day : new int[] {-1, 20000, Integer.MIN_VALUE}) {
            Check.refused("least on " + day, IllegalArgumentException.class, () -> court.least(day, 1));
        }
        for (int kilos : new int[] {0, -1, 10001, Integer.MAX_VALUE}) {
            Check.refused("least of " + kilos, IllegalArgumentException.class, () -> court.least(0, kilos));
        }
        Check.due("least of all", 1, court.least(19999, 10000));
        for (int k : new int[] {Integer.MIN_VALUE, -1, 1, 2, 3, 4, Integer.MAX_VALUE}) {
            noShare(k);
        }
    }

    private static int wished(int mark, int low, int high) {
        court.wish(mark, low, high);
        return 0;
    }

    public static void main(String[] args) {
        theCheapestAreTaken();
        ofSeveralTheFirstShareIsGreatest();
        wishesAreKept();
        tenthsAreRounded();
        whoTakesPart();
        theyStandInTheOrderOfTheBins();
        theLatestCupIsKnown();
        costsNextToEachOther();
        theLatestSharesStay();
        wrongOnesAreRefused();
        Check.end();
    }
}
