import java.util.NoSuchElementException;
import java.util.function.Consumer;

/** Each sentence that names a boundary case, of promises 18 to 22 and of the terms that they use. */
public final class EdgesOfBlendsTest {
    private static final int LEAST_INT = Integer.MIN_VALUE;
    private static final int GREATEST_INT = Integer.MAX_VALUE;
    private static final int[] NO_LOTS = {-1, 6, 39, 40, LEAST_INT, GREATEST_INT};
    private static final Consumer<TeaCourt> FULL = Still::everything;
    private static TeaCourt court;

    private static void fourParts(TeaCourt fresh) {
        Still.everything(fresh);
        fresh.part(0, 1000);
        fresh.part(5, 1);
    }

    private static void threeDeep(TeaCourt fresh) {
        Still.everything(fresh);
        fresh.blend(0);
        fresh.part(0, 3);
        fresh.part(6, 1);
        fresh.part(5, 1);
    }

    private static void fortyLots(TeaCourt fresh) {
        Still.everything(fresh);
        for (int i = 6; i < 40; i++) {
            fresh.lot(i % 5, i, i);
        }
    }

    private static void atMostFourParts() {
        Check.sentence("PARTS are collected (at most 4, each a LOT and 1 to 1000; a LOT may come again)");
        court = Still.leaves(40);
        int[][] parts = {{0, 1}, {39, 1000}, {0, 2}, {0, 1}};
        for (int i = 0; i < 4; i++) {
            Check.due("parts", i, court.count(3));
            Check.due("part(" + parts[i][0] + ", " + parts[i][1] + ")", i + 1, court.part(parts[i][0], parts[i][1]));
        }
        Check.due("a fifth", -1, court.part(5, 5));
        Check.due("parts", 4, court.count(3));
        court.undo();
        Check.due("parts without lot 39", 3, court.count(3));
        Check.due("a fourth again", 4, court.part(1, 1));
        Check.due("a fifth again", -1, court.part(1, 1));
        Check.due("parts of the blend", 4, court.about(court.blend(0), 4));
        Check.due("a first", 1, court.part(0, 1));
    }

    private static void noneComesAtFour() {
        Check.sentence("how many there are; NONE, and none comes, if there are 4.");
        Still.answers("a fifth", -1, EdgesOfBlendsTest::fourParts, c -> c.part(0, 1));
        Still.answers("a fifth", -1, EdgesOfBlendsTest::fourParts, c -> c.part(4, 1000));
        Still.answers("a fifth, of a blend", -1, EdgesOfBlendsTest::fourParts, c -> c.part(5, 7));
    }

    private static void partsOfOneToAThousand() {
        Check.sentence("IllegalArgumentException: parts are not 1 to 1000.");
        for (int parts : new int[] {0, -1, 1001, LEAST_INT, GREATEST_INT}) {
            Still.refused("part(0, " + parts + ")", IllegalArgumentException.class, FULL, c -> c.part(0, parts));
        }
        court = Still.leaves(2);
        court.lot(0, 2003, 0);
        Check.due("part(0, 1000)", 1, court.part(0, 1000));
        Check.due("part(2, 1)", 2, court.part(2, 1));
        Check.due("the price of 1000 of 1 and 1 of 2003", 3, court.about(court.blend(0), 1));
    }

    private static void noLotAsAPart() {
        Check.sentence("NoSuchElementException: no such LOT; IllegalArgumentException: parts are not 1 to 1000.");
        for (int lot : NO_LOTS) {
            Still.refused("part(" + lot + ", 1)", NoSuchElementException.class, FULL, c -> c.part(lot, 1));
        }
        court = new TeaCourt();
        Check.refused("part(0, 1) without lots", NoSuchElementException.class, () -> court.part(0, 1));
        court.lot(0, 0, 0);
        Check.due("part(0, 1)", 1, court.part(0, 1));
    }

    private static int blended(int... lots) {
        for (int lot : lots) {
            court.part(lot, 1);
        }
        return court.blend(0);
    }

    private static void deep(int due, int... lots) {
        Check.due("how deep it lies", due, court.about(blended(lots), 5));
    }

    private static void atMostTwoDeep() {
        Check.sentence("A BLEND lies at most 2 deep (one of LOTS that are none lies 1 deep, others one deeper than the"
                + " deepest of their parts).");
        court = Still.leaves(2);
        deep(1, 0);
        deep(1, 0, 1, 0, 1);
        deep(2, 2);
        deep(2, 0, 0, 0, 3);
        deep(2, 3, 0, 0, 0);
        deep(2, 2, 3, 2, 3);
        int[][] tooDeep = {{4}, {0, 0, 0, 5}, {6, 0, 0, 0}, {0, 2, 7, 3}, {4, 5, 6, 7}};
        for (int[] lots : tooDeep) {
            court = Still.leaves(2);
            for (int[] made : new int[][] {{0}, {1}, {2}, {3}, {2, 3}, {0, 2}}) {
                blended(made);
            }
            Check.refused("a blend of " + java.util.Arrays.toString(lots), IllegalStateException.class,
                    () -> blended(lots));
            Check.due("its parts stay", lots.length, court.count(3));
            Check.due("no lot comes", 8, court.count(0));
        }
    }

    private static void twoDeepInABin() {
        Check.sentence("A BLEND lies at most 2 deep");
        court = new TeaCourt();
        court.lot(2, 5, 0);
        deep(1, 0);
        deep(2, 1);
        // All taste of 1 for MARK 1, so of 10 TENTHS.
        for (int lot = 0; lot < 3; lot++) {
            court.weigh(lot, Still.bits(1));
            court.put(0, 1, lot);
            court.wish(1, 10, 10);
            found(0, 10, "5", "1");
            court.wish(1, -9999, 9);
            notFound(0, 10);
        }
    }

    private static void noPartsOrTooDeep() {
        Check.sentence("IllegalStateException: there are no PARTS, or it would lie 3 deep;");
        Still.refused("3 deep", IllegalStateException.class, EdgesOfBlendsTest::threeDeep, c -> c.blend(0));
        Consumer<TeaCourt> noParts = c -> {
            Still.everything(c);
            c.blend(0);
        };
        Still.refused("no parts", IllegalStateException.class, noParts, c -> c.blend(0));
        court = new TeaCourt();
        Check.refused("no parts, no lots", IllegalStateException.class, () -> court.blend(0));
        court.lot(0, 0, 0);
        Check.refused("no parts at first", IllegalStateException.class, () -> court.blend(9999));
        court.part(0, 1);
        court.undo();
        Check.refused("no parts once their lot is gone", IllegalStateException.class, () -> court.blend(0));
    }

    private static void daysOfABlend() {
        Check.sentence("or it would lie 3 deep; IllegalArgumentException: the DAY is not 0 to 9999.");
        for (int day : new int[] {-1, 10000, 19999, LEAST_INT, GREATEST_INT}) {
            Still.refused("blend(" + day + ")", IllegalArgumentException.class, FULL, c -> c.blend(day));
        }
        for (int day : new int[] {0, 9999}) {
            court = Still.leaves(1);
            court.part(0, 1);
            Check.due("blend(" + day + ")", 1, court.blend(day));
            Check.due("its day", day, court.about(1, 2));
        }
    }

    private static void noneAtForty() {
        Check.sentence("there are none then. NONE, and they stay, if there are 40 LOTS.");
        Still.answers("a 41st", -1, EdgesOfBlendsTest::fortyLots, c -> c.blend(0));
        Still.answers("a 41st", -1, EdgesOfBlendsTest::fortyLots, c -> c.blend(9999));
        court = Still.leaves(39);
        court.part(0, 1);
        Check.due("the 40th", 39, court.blend(0));
        Check.due("parts behind it", 0, court.count(3));
        court.part(0, 1);
        Check.due("the 41st", -1, court.blend(0));
        Check.due("parts behind it", 1, court.count(3));
        Check.due("undo()", 5, court.undo());
        Check.due("the 40th, of what stayed", 39, court.blend(0));
    }

    private static void pricesAreCut() {
        Check.sentence("its PRICE is the sum of parts times PRICES by the sum of parts, cut; not weighed.");
        court = new TeaCourt();
        court.lot(0, 0, 0);
        court.lot(0, 1, 0);
        court.lot(0, 9999, 0);
        int[][] parts = {{0, 1}, {1, 1000}, {0, 1, 1, 1}, {0, 1, 1, 999}, {2, 1000, 2, 1000, 2, 1000, 2, 1000},
            {2, 1000, 2, 1000, 2, 1000, 1, 1}, {1, 1000, 1, 1000, 1, 1000, 0, 1}, {2, 1, 1, 1}};
        int[] due = {0, 1, 0, 0, 9999, (3000 * 9999 + 1) / 3001, 0, 5000};
        for (int i = 0; i < parts.length; i++) {
            for (int k = 0; k < parts[i].length; k += 2) {
                court.part(parts[i][k], parts[i][k + 1]);
            }
            int blend = court.blend(0);
            Check.due("price of blend " + i, due[i], court.about(blend, 1));
            Check.due("KILOS of blend " + i, -1, court.about(blend, 3));
        }
    }

    /** A LOT of so many KILOS in the BIN of its number. */
    private static int stock(int kind, int price, int kilos) {
        int lot = court.lot(kind, price, 0);
        Check.due("KILOS", kilos, court.weigh(lot, Still.bits(kilos / 10.0)));
        court.put(lot, 1, lot);
        return lot;
    }

    private static void found(int day, int kilos, String cost, String... shares) {
        String what = "least(" + day + ", " + kilos + ")";
        Check.due(what, shares.length, court.least(day, kilos));
        Check.same(what + " printed", cost, Check.page(court));
        for (int k = 0; k < shares.length; k++) {
            Check.printed("share(" + k + ") of " + what, court, shares[k], court.share(k));
        }
        for (int k = shares.length; k < 5; k++) {
            Check.due("share(" + k + ") of " + what, -1, court.share(k));
        }
    }

    private static void notFound(int day, int kilos) {
        String before = Check.page(court);
        String what = "least(" + day + ", " + kilos + ")";
        Check.due(what, -1, court.least(day, kilos));
        for (int k = -1; k < 5; k++) {
            Check.due("share(" + k + ") of " + what, -1, court.share(k));
        }
        Check.same("the page behind " + what, before, Check.page(court));
    }

    private static void wishesWithinTheirEnds() {
        Check.sentence("for each MARK with a WISH the sum of x times TENTHS (on this day) within it.");
        for (int mark = 0; mark < 4; mark++) {
            court = Still.leaves(1);
            Still.step(court, 0, 0, stock(0, 7, 10), 4, Still.row(-2, 3, 1, -1));
            int tenths = new int[] {-20, 30, 10, -10}[mark];
            int[][] within = {{tenths, tenths}, {tenths, 9999}, {-9999, tenths}, {-9999, 9999}, {tenths - 1, tenths + 1}};
            for (int[] w : within) {
                court.wish(mark, w[0], w[1]);
                found(0, 1, "7", "1");
            }
            int[][] beside = {{tenths + 1, tenths + 1}, {tenths + 1, 9999}, {-9999, tenths - 1}, {tenths - 1, tenths - 1}};
            for (int[] w : beside) {
                court.wish(mark, w[0], w[1]);
                notFound(0, 1);
            }
        }
    }

    private static void noWish() {
        Check.sentence("A WISH for a MARK: from low to high; none, if low is above high.");
        court = new TeaCourt();
        stock(2, 7, 10);
        court.wish(1, 11, 11);
        notFound(0, 1);
        int[][] none = {{12, 11}, {1, 0}, {9999, -9999}, {0, -1}, {-9998, -9999}, {9999, 9998}};
        for (int[] w : none) {
            court.wish(1, 11, 11);
            notFound(0, 1);
            court.wish(1, w[0], w[1]);
            found(0, 1, "7", "1");
        }
        court.wish(1, 10, 10);
        found(0, 1, "7", "1");
    }

    private static void wrongWishes() {
        Check.sentence("none, if low is above high. IndexOutOfBoundsException: no such MARK; IllegalArgumentException: one"
                + " is not -9999 to 9999.");
        for (int mark : new int[] {-1, 4, LEAST_INT, GREATEST_INT}) {
            Still.refused("wish for " + mark, IndexOutOfBoundsException.class, FULL, c -> Still.wished(c, mark, 1, 2));
        }
        for (int n : new int[] {-10000, 10000, LEAST_INT, GREATEST_INT}) {
            for (int mark = 0; mark < 4; mark++) {
                int of = mark;
                Still.refused("wish from " + n, IllegalArgumentException.class, FULL, c -> Still.wished(c, of, n, 0));
                Still.refused("wish to " + n, IllegalArgumentException.class, FULL, c -> Still.wished(c, of, 0, n));
            }
        }
        court = new TeaCourt();
        for (int mark = 0; mark < 4; mark++) {
            Check.due("the widest wish", 0, Still.wished(court, mark, -9999, 9999));
            Check.due("the widest that is none", 0, Still.wished(court, mark, 9999, -9999));
            Check.due("the greatest", 0, Still.wished(court, mark, 9999, 9999));
            Check.due("the least", 0, Still.wished(court, mark, -9999, -9999));
        }
    }

    private static void daysAndKilos() {
        Check.sentence("IllegalArgumentException: the day is not 0 to 19999, or kilos not 1 to 10000.");
        for (int day : new int[] {-1, 20000, LEAST_INT, GREATEST_INT}) {
            Still.refused("least on " + day, IllegalArgumentException.class, FULL, c -> c.least(day, 20));
        }
        for (int kilos : new int[] {0, -1, 10001, LEAST_INT, GREATEST_INT}) {
            Still.refused("least of " + kilos, IllegalArgumentException.class, FULL, c -> c.least(10, kilos));
        }
        court = new TeaCourt();
        stock(0, 7, 10000);
        found(0, 1, "7", "1");
        found(19999, 1, "7", "1");
        found(0, 10000, "7", "1");
        found(19999, 10000, "7", "1");
    }

    private static void noneWithoutLots() {
        Check.sentence("There may be none (also without LOTS).");
        court = new TeaCourt();
        notFound(0, 1);
        court.lot(0, 5, 0);
        notFound(0, 1);
        court.weigh(0, Still.bits(1));
        notFound(0, 1);
        court.put(0, 1, 0);
        found(0, 1, "5", "1");
        court.wish(0, 1, 1);
        notFound(0, 1);
    }

    private static void noneIsNone() {
        Check.sentence("NONE if there is none. The COST is printed then (else the PAGE stays).");
        court = new TeaCourt();
        stock(0, 1234, 10);
        found(0, 10, "1234", "1");
        court.least(0, 10);
        Check.same("the page", "1234", Check.page(court));
        Check.due("least(0, 11)", -1, court.least(0, 11));
        Check.same("the page", "1234", Check.page(court));
        Check.due("least(0, 10)", 1, court.least(0, 10));
        court.lot(0, 0, 0);
        court.taste(1, 0, 0);
        Check.due("least(0, 11) behind a taste", -1, court.least(0, 11));
        Check.same("the page", "0", Check.page(court));
    }

    private static void lotsInBins() {
        Check.sentence("among the LOTS that lie in BINS, in their order, each once");
        court = new TeaCourt();
        int lot = court.lot(0, 5, 0);
        court.weigh(lot, Still.bits(1));
        court.put(3, 2, lot);
        notFound(0, 10);
        court.put(0, 1, lot);
        found(0, 10, "5", "1");
        court.put(0, 0, lot);
        notFound(0, 10);
        court.put(11, 1, lot);
        found(0, 10, "5", "1");
        court.put(11, 2, lot);
        notFound(0, 10);
        // In all bins it is still one, and not more KILOS.
        for (int bin = 0; bin < 12; bin++) {
            court.put(bin, 1, lot);
        }
        found(0, 10, "5", "1");
        notFound(0, 11);
        court.lot(0, 6, 0);
        court.weigh(1, Still.bits(1));
        court.put(11, 1, 1);
        found(0, 11, "56/11", "10/11", "1/11");
        court.put(0, 1, 1);
        found(0, 11, "56/11", "1/11", "10/11");
    }

    private static void kilosAboveZero() {
        Check.sentence("that are weighed with KILOS above 0, and not SMOKED: the first four.");
        court = new TeaCourt();
        court.lot(0, 5, 0);
        court.put(0, 1, 0);
        int[] bits = {0x7fc00000, 0, 0x80000000, 1, Still.bits(0.09), Still.bits(0.1) - 1};
        for (int b : bits) {
            court.weigh(0, b);
            notFound(0, 1);
        }
        court.weigh(0, Still.bits(0.1));
        found(0, 1, "5", "1");
        notFound(0, 2);
        court.weigh(0, 0x7f800000);
        found(0, 10000, "5", "1");
        court.weigh(0, 0x7fc00000);
        notFound(0, 1);
    }

    private static void notSmoked() {
        Check.sentence("that are weighed with KILOS above 0, and not SMOKED: the first four.");
        for (int kind = 0; kind < 5; kind++) {
            court = new TeaCourt();
            stock(kind, 5, 10);
            if (kind == 3) {
                notFound(0, 1);
            } else {
                found(0, 1, "5", "1");
            }
        }
        court = new TeaCourt();
        stock(3, 5, 10);
        court.part(0, 1);
        int blend = court.blend(0);
        court.put(1, 1, blend);
        notFound(0, 1);
        court.weigh(blend, Still.bits(1));
        found(0, 1, "5", "1");
    }

    private static void theFirstFour() {
        Check.sentence("that are weighed with KILOS above 0, and not SMOKED: the first four.");
        court = new TeaCourt();
        String[][] due = {{"1"}, {"0", "1"}, {"0", "0", "1"}, {"0", "0", "0", "1"}};
        for (int i = 0; i < 8; i++) {
            stock(0, 100 - i, 10);
            found(0, 10, "" + (100 - Math.min(3, i)), due[Math.min(3, i)]);
        }
        // Those that do not fulfil it do not count among the four.
        court.weigh(1, 0);
        found(0, 10, "96", "0", "0", "0", "1");
        court.put(3, 2, 3);
        found(0, 10, "95", "0", "0", "0", "1");
        court.put(5, 1, 0);
        found(0, 10, "94", "0", "0", "0", "1");
        court.weigh(0, 0x7fc00000);
        found(0, 10, "93", "0", "0", "0", "1");
        court.lot(3, 0, 0);
        court.weigh(8, Still.bits(1));
        court.put(2, 1, 8);
        found(0, 10, "93", "0", "0", "1");
        court.put(0, 2, 9);
        found(0, 10, "93", "0", "0", "1");
    }

    private static void noneBelowZeroTogetherOne() {
        Check.sentence("Shares x, one for each, none below 0, together 1;");
        court = new TeaCourt();
        // LEAF 0, ROLLED 10 tenths: 11 or -1 would need a share below 0.
        stock(0, 5, 100);
        stock(2, 5, 100);
        court.wish(1, 10, 10);
        found(0, 10, "5", "0", "1");
        court.wish(1, 11, 11);
        notFound(0, 10);
        court.wish(1, 0, 0);
        found(0, 10, "5", "1", "0");
        court.wish(1, -1, -1);
        notFound(0, 10);
        court.wish(1, 1, 1);
        found(0, 10, "5", "9/10", "1/10");
        // A PRICE of 0 does not make more than all of it.
        court = new TeaCourt();
        stock(0, 0, 100);
        stock(0, 9999, 100);
        found(0, 10, "0", "1", "0");
        court.put(0, 0, 0);
        found(0, 10, "9999", "1");
    }

    private static void noMoreThanItsKilos() {
        Check.sentence("no x times the KILOS wanted above the KILOS of its LOT;");
        court = new TeaCourt();
        stock(0, 5, 9);
        found(0, 8, "5", "1");
        found(0, 9, "5", "1");
        notFound(0, 10);
        stock(0, 6, 1);
        found(0, 9, "5", "1", "0");
        found(0, 10, "51/10", "9/10", "1/10");
        notFound(0, 11);
        stock(0, 3, 1);
        stock(0, 4, 9989);
        found(0, 9990, Ratio.of(3 + 4 * 9989, 9990) + "", "0", "0", "1/9990", "9989/9990");
        found(0, 9999, Ratio.of(45 + 3 + 4 * 9989, 9999) + "", "1/1111", "0", "1/9999", "9989/9999");
        found(0, 10000, Ratio.of(45 + 6 + 3 + 4 * 9989, 10000) + "", "9/10000", "1/10000", "1/10000", "9989/10000");
        Check.due("a tenth less", 9988, court.weigh(3, Still.bits(998.8)));
        notFound(0, 10000);
        found(0, 9999, Ratio.of(45 + 6 + 3 + 4 * 9988, 9999) + "", "1/1111", "1/9999", "1/9999", "908/909");
    }

    private static void howManyTakePart() {
        Check.sentence("how many LOTS take part in it (their shares may be 0);");
        for (int many = 1; many <= 6; many++) {
            court = new TeaCourt();
            for (int i = 0; i < many; i++) {
                stock(0, i, 10);
            }
            Check.due("least of " + many + " lots", Math.min(4, many), court.least(0, 10));
            Check.same("the cost", "0", Check.page(court));
            for (int k = 0; k < 4; k++) {
                if (k < many) {
                    Check.printed("share(" + k + ")", court, k == 0 ? "1" : "0", court.share(k));
                } else {
                    Check.due("share(" + k + ")", -1, court.share(k));
                }
            }
        }
    }

    private static void aLeastAndAGreatest() {
        Check.sentence("WISHES: for each MARK a least and a greatest number of TENTHS, or none.");
        // A wish for one mark is none for another, and a later one takes the place of what was.
        court = Still.leaves(1);
        Still.step(court, 0, 0, stock(0, 7, 10), 4, Still.row(1, 2, 3, 4));
        for (int mark = 0; mark < 4; mark++) {
            court.wish(mark, 10 * mark + 10, 10 * mark + 10);
            found(0, 1, "7", "1");
        }
        for (int mark = 0; mark < 4; mark++) {
            court.wish(mark, 10 * mark + 11, 9999);
            notFound(0, 1);
            court.wish(mark, 10 * mark + 10, 10 * mark + 10);
            found(0, 1, "7", "1");
            court.wish(mark, -9999, 10 * mark + 9);
            notFound(0, 1);
            court.wish(mark, 1, 0);
            found(0, 1, "7", "1");
        }
    }

    private static void leastCost() {
        Check.sentence("Of these that with the least COST, the sum of x times PRICE;");
        court = new TeaCourt();
        stock(0, 9999, 10);
        stock(0, 9998, 10);
        found(0, 10, "9998", "0", "1");
        stock(2, 0, 10);
        found(0, 10, "0", "0", "0", "1");
        court.wish(1, 0, 0);
        found(0, 10, "9998", "0", "1", "0");
        court.wish(1, 0, 1);
        found(0, 10, Ratio.of(9998 * 9, 10) + "", "0", "9/10", "1/10");
        court.wish(1, 1, 9);
        found(0, 10, Ratio.of(9998, 10) + "", "0", "1/10", "9/10");
        court.wish(1, 1, 10);
        found(0, 11, Ratio.of(9998, 11) + "", "0", "1/11", "10/11");
    }

    private static void greatestFirstShares() {
        Check.sentence("of several the one whose first share is greatest, of these the second one's, and so on.");
        court = new TeaCourt();
        for (int i = 0; i < 4; i++) {
            stock(0, 5, 3);
        }
        found(0, 3, "5", "1", "0", "0", "0");
        found(0, 4, "5", "3/4", "1/4", "0", "0");
        found(0, 7, "5", "3/7", "3/7", "1/7", "0");
        found(0, 11, "5", "3/11", "3/11", "3/11", "2/11");
        found(0, 12, "5", "1/4", "1/4", "1/4", "1/4");
        notFound(0, 13);
        // The order of the BINS tells who is first.
        court = new TeaCourt();
        stock(0, 5, 3);
        stock(0, 5, 4);
        found(0, 5, "5", "3/5", "2/5");
        court.put(1, 1, 0);
        court.put(0, 1, 1);
        found(0, 5, "5", "4/5", "1/5");
        // LEAF, ROLLED, LEAF, ROLLED of one PRICE: the WISH leaves it open which LEAF and which ROLLED.
        court = new TeaCourt();
        for (int i = 0; i < 4; i++) {
            stock(i % 2 * 2, 5, 10);
        }
        court.wish(1, 5, 5);
        found(0, 10, "5", "1/2", "1/2", "0", "0");
        court.weigh(0, Still.bits(0.3));
        found(0, 10, "5", "3/10", "1/2", "1/5", "0");
        court.wish(1, 7, 9999);
        found(0, 10, "5", "3/10", "7/10", "0", "0");
        court.weigh(1, Still.bits(0.4));
        found(0, 10, "5", "3/10", "2/5", "0", "3/10");
        court.wish(1, -9999, 3);
        found(0, 10, "5", "3/10", "3/10", "2/5", "0");
    }

    private static void shares() {
        Check.sentence("NONE, and the PAGE stays, without one (also when there was none, or ahead of any).");
        court = Still.leaves(1);
        court.taste(0, 0, 0);
        for (int k : new int[] {LEAST_INT, -1, 0, 1, 4, GREATEST_INT}) {
            Check.due("share(" + k + ") ahead of any", -1, court.share(k));
        }
        Check.same("the page", "0", Check.page(court));
        for (int many = 1; many <= 4; many++) {
            court = new TeaCourt();
            for (int i = 0; i < many; i++) {
                stock(0, 17, 10);
            }
            Check.due("least", many, court.least(0, 10));
            for (int k : new int[] {LEAST_INT, -1, many, many + 1, 4, 5, GREATEST_INT}) {
                Check.due("share(" + k + ") of " + many, -1, court.share(k));
            }
            Check.same("the page", "17", Check.page(court));
            Check.printed("the first", court, "1", court.share(0));
            Check.printed("the last", court, many == 1 ? "1" : "0", court.share(many - 1));
            Check.due("share(" + many + ")", -1, court.share(many));
            Check.due("least of too much", -1, court.least(0, 10000));
            for (int k = 0; k < many; k++) {
                Check.due("share(" + k + ") of none", -1, court.share(k));
            }
            Check.same("the page", many == 1 ? "1" : "0", Check.page(court));
        }
        Still.answers("share(3) of three", -1, FULL, c -> c.share(3));
        Still.answers("share(-1)", -1, FULL, c -> c.share(-1));
    }

    public static void main(String[] args) {
        atMostFourParts();
        noneComesAtFour();
        partsOfOneToAThousand();
        noLotAsAPart();
        atMostTwoDeep();
        twoDeepInABin();
        noPartsOrTooDeep();
        daysOfABlend();
        noneAtForty();
        pricesAreCut();
        wishesWithinTheirEnds();
        noWish();
        wrongWishes();
        daysAndKilos();
        noneWithoutLots();
        noneIsNone();
        lotsInBins();
        kilosAboveZero();
        notSmoked();
        theFirstFour();
        noneBelowZeroTogetherOne();
        noMoreThanItsKilos();
        howManyTakePart();
        aLeastAndAGreatest();
        leastCost();
        greatestFirstShares();
        shares();
        Check.end();
    }
}
