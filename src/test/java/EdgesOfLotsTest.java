import java.util.NoSuchElementException;
import java.util.function.Consumer;

/** Each sentence that names a boundary case, of promises 1 to 7 and of the terms that they use. */
public final class EdgesOfLotsTest {
    private static final int LEAST_INT = Integer.MIN_VALUE;
    private static final int GREATEST_INT = Integer.MAX_VALUE;
    private static final Consumer<TeaCourt> FULL = Still::everything;
    private static TeaCourt court;

    private static void fortyLots(TeaCourt fresh) {
        Still.everything(fresh);
        for (int i = 6; i < 40; i++) {
            fresh.lot(i % 5, i, i);
        }
    }

    private static void noLotsAtFirst() {
        Check.sentence("No LOTS, cups, WISHES, PARTS; empty BINS; an empty PAGE.");
        court = new TeaCourt();
        for (int what = 0; what < 6; what++) {
            Check.due("count(" + what + ")", 0, court.count(what));
        }
        Check.refused("about(0, 0)", NoSuchElementException.class, () -> court.about(0, 0));
        Check.refused("pour(0, 0, 0)", IllegalStateException.class, () -> court.pour(0, 0, 0));
        Check.refused("blend(0)", IllegalStateException.class, () -> court.blend(0));
        for (int bin = 0; bin < 12; bin++) {
            Check.due("look(" + bin + ")", -3, court.look(bin));
            Check.due("card(" + bin + ")", 0, court.card(bin));
            Check.due("put(" + bin + ", 0, 0)", -1, court.put(bin, 0, 0));
        }
        for (int taster = 0; taster < 8; taster++) {
            Check.due("cups of " + taster, 0, court.taster(taster, 2));
        }
        for (int k = -1; k < 3; k++) {
            Check.due("octet(" + k + ")", -1, court.octet(k));
        }
    }

    private static void noWishesAtFirst() {
        Check.sentence("No LOTS, cups, WISHES, PARTS; empty BINS; an empty PAGE.");
        for (int sign = -1; sign <= 1; sign++) {
            court = Still.leaves(2);
            Still.step(court, 0, 0, 1, 4, Still.row(60 * sign, 60 * sign, 60 * sign, 60 * sign));
            court.weigh(1, Still.bits(1));
            court.put(0, 1, 1);
            Check.due("least(0, 10) far off 0, " + sign, 1, court.least(0, 10));
        }
    }

    private static void atMostForty() {
        Check.sentence("LOTS, at most 40, numbered from 0 on.");
        court = new TeaCourt();
        for (int i = 0; i < 40; i++) {
            Check.due("lots ahead of " + i, i, court.count(0));
            Check.due("lot " + i, i, court.lot(i % 5, i, 2 * i));
        }
        Check.due("a 41st", -1, court.lot(0, 0, 0));
        Check.due("lots", 40, court.count(0));
        for (int i = 0; i < 40; i++) {
            Check.due("price of " + i, i, court.about(i, 1));
        }
        Check.refused("about(40, 0)", NoSuchElementException.class, () -> court.about(40, 0));
        Check.due("undo()", 0, court.undo());
        Check.refused("about(39, 0)", NoSuchElementException.class, () -> court.about(39, 0));
        Check.due("the 40th again", 39, court.lot(0, 77, 0));
        Check.due("its price", 77, court.about(39, 1));
        Check.due("a 41st again", -1, court.lot(0, 0, 0));
    }

    private static void blendsAreLotsToo() {
        Check.sentence("LOTS, at most 40, numbered from 0 on.");
        court = Still.leaves(39);
        court.part(0, 1);
        Check.due("a blend is the 40th", 39, court.blend(0));
        Check.due("a lot behind it", -1, court.lot(0, 0, 0));
        Check.due("lots", 40, court.count(0));
    }

    private static void noneComesAtForty() {
        Check.sentence("its number; NONE, and none comes, if there are 40.");
        Still.answers("a 41st", -1, EdgesOfLotsTest::fortyLots, c -> c.lot(0, 0, 0));
        Still.answers("a 41st", -1, EdgesOfLotsTest::fortyLots, c -> c.lot(4, 9999, 9999));
    }

    private static void anotherKind() {
        Check.sentence("IllegalArgumentException: another KIND, a PRICE or DAY that is not 0 to 9999.");
        for (int kind : new int[] {-1, 5, 6, 8, LEAST_INT, GREATEST_INT}) {
            Still.refused("lot of kind " + kind, IllegalArgumentException.class, FULL, c -> c.lot(kind, 0, 0));
        }
        Check.sentence("A LOT of KIND 0 to 4: its number;");
        court = new TeaCourt();
        for (int kind = 0; kind < 5; kind++) {
            Check.due("lot of kind " + kind, kind, court.lot(kind, 0, 0));
            Check.due("its kind", kind, court.about(kind, 0));
        }
    }

    private static void pricesAndDays() {
        Check.sentence("IllegalArgumentException: another KIND, a PRICE or DAY that is not 0 to 9999.");
        for (int n : new int[] {-1, 10000, LEAST_INT, GREATEST_INT}) {
            Still.refused("lot of price " + n, IllegalArgumentException.class, FULL, c -> c.lot(0, n, 0));
            Still.refused("lot of day " + n, IllegalArgumentException.class, FULL, c -> c.lot(0, 0, n));
        }
        court = new TeaCourt();
        for (int n : new int[] {0, 1, 9998, 9999}) {
            int number = court.count(0);
            Check.due("lot of price and day " + n, number, court.lot(0, n, 9999 - n));
            Check.due("its price", n, court.about(number, 1));
            Check.due("its day", 9999 - n, court.about(number, 2));
        }
    }

    private static void weighed(String what, int due, int bits) {
        Check.due("weigh " + what, due, court.weigh(0, bits));
        Check.due("KILOS behind it", due, court.about(0, 3));
    }

    private static void tenthsOfAKilo() {
        Check.sentence("that times 10 (rounded to a float), cut to a whole number (2147483647 at most): its KILOS");
        court = Still.leaves(1);
        weighed("0", 0, 0);
        weighed("the least above 0", 0, 1);
        weighed("the greatest without an exponent", 0, 0x007fffff);
        weighed("the float ahead of 0.1", 0, Still.bits(0.1) - 1);
        weighed("0.1", 1, Still.bits(0.1));
        weighed("0.19", 1, Still.bits(0.19));
        weighed("the float ahead of 2", 19, Still.bits(2) - 1);
        weighed("0.7, of which ten times is less than 7 until it is rounded", 7, Still.bits(0.7));
        // 83886100 and 83886140 lie in the middle of two floats: the even one is taken. So does 134217800.
        weighed("8388610, a tie downward", 83886096, Still.bits(8388610.0));
        weighed("8388614, a tie upward", 83886144, Still.bits(8388614.0));
        weighed("13421780, a wider tie", 134217792, Still.bits(13421780.0));
    }

    private static void atMostSoMuch() {
        Check.sentence("cut to a whole number (2147483647 at most): its KILOS");
        court = Still.leaves(1);
        weighed("214748352", 2147483520, Still.bits(214748352.0));
        weighed("the float behind it", 2147483647, Still.bits(214748352.0) + 1);
        weighed("429496729.6, a whole turn", 2147483647, Still.bits(429496729.6));
        weighed("what comes to more than all once it is times 10", 2147483647, Still.bits(1e38));
        weighed("the greatest", 2147483647, 0x7f7fffff);
        weighed("more than all", 2147483647, 0x7f800000);
    }

    private static void onceItIsWeighed() {
        Check.sentence("A LOT has a PRICE (a kilo), a DAY, and KILOS (in tenths) once it is weighed.");
        court = Still.leaves(2);
        court.part(0, 1);
        court.blend(0);
        for (int lot = 0; lot < 3; lot++) {
            Check.due("KILOS of " + lot + " at first", -1, court.about(lot, 3));
        }
        for (int lot = 0; lot < 3; lot++) {
            Check.due("weigh lot " + lot, lot, court.weigh(lot, Still.bits(lot / 10.0)));
            Check.due("KILOS of " + lot, lot, court.about(lot, 3));
            Check.due("KILOS of the next", lot < 2 ? -1 : 0, court.about((lot + 1) % 3, 3));
        }
    }

    private static void noNumber() {
        Check.sentence("no number: it is not weighed (any more): NONE.");
        court = Still.leaves(1);
        Check.due("KILOS at first", -1, court.about(0, 3));
        for (int bits : new int[] {0x7f800001, 0x7fc00000, 0x7fffffff, 0xff800001, 0xffc00000, -1}) {
            weighed("no number on what is not weighed", -1, bits);
            weighed("5", 50, Still.bits(5));
            weighed("no number on what is weighed", -1, bits);
        }
        weighed("the bits ahead of the first no number", 2147483647, 0x7f800000);
    }

    private static void belowZero() {
        Check.sentence("IllegalArgumentException: the float is below 0 (-0 is not).");
        for (int bits : new int[] {0x80000001, 0x807fffff, Still.bits(-0.01), Still.bits(-1), 0xff7fffff, 0xff800000}) {
            for (int lot : new int[] {0, 2}) {
                Still.refused("weigh(" + lot + ", " + bits + ")", IllegalArgumentException.class, FULL,
                        c -> c.weigh(lot, bits));
            }
        }
        court = Still.leaves(1);
        weighed("-0", 0, 0x80000000);
        weighed("0", 0, 0);
    }

    private static void weighNoLot() {
        Check.sentence("NoSuchElementException: no such LOT; IllegalArgumentException: the float is below 0");
        for (int lot : new int[] {-1, 6, 7, 39, 40, LEAST_INT, GREATEST_INT}) {
            Still.refused("weigh lot " + lot, NoSuchElementException.class, FULL, c -> c.weigh(lot, 0));
        }
        court = Still.leaves(40);
        Check.due("weigh lot 39", 10, court.weigh(39, Still.bits(1)));
        Check.due("weigh lot 0", 20, court.weigh(0, Still.bits(2)));
    }

    private static void kindOfWhatItHad() {
        Check.sentence("the KIND of what it had: of a LOT its KIND, 8 a CARD, NONE nothing.");
        court = new TeaCourt();
        Still.everything(court);
        for (int lot = 0; lot < 6; lot++) {
            Check.due("lot " + lot + " where nothing was", -1, court.put(7, 1, lot));
            Check.due("a card where lot " + lot + " was", lot, court.put(7, 2, 100 + lot));
            Check.due("nothing where a card was", 8, court.put(7, 0, lot));
            Check.due("nothing where nothing was", -1, court.put(7, 0, lot));
        }
    }

    private static void bins() {
        Check.sentence("BINS 0 to 11: in each a LOT, a CARD (a whole number), or nothing.");
        court = Still.leaves(1);
        for (int bin = 0; bin < 12; bin++) {
            Check.due("put(" + bin + ", 1, 0)", -1, court.put(bin, 1, 0));
        }
        for (int bin = 0; bin < 12; bin++) {
            Check.due("look(" + bin + ")", 0, court.look(bin));
        }
        for (int bin = 0; bin < 12; bin += 11) {
            for (int n : new int[] {0, 1, -1, -2, -3, 40, LEAST_INT, GREATEST_INT}) {
                court.put(bin, 2, n);
                Check.due("a card of " + n + ", asked as a lot", -2, court.look(bin));
                Check.due("a card of " + n, n, court.card(bin));
            }
        }
        for (int bin = 1; bin < 11; bin++) {
            Check.due("look(" + bin + "), whose neighbours changed", 0, court.look(bin));
        }
    }

    private static void noSuchBin() {
        Check.sentence("IndexOutOfBoundsException: no such BIN; IllegalArgumentException: no such what;"
                + " NoSuchElementException: no such LOT.");
        for (int bin : new int[] {-1, 12, LEAST_INT, GREATEST_INT}) {
            for (int what = 0; what < 3; what++) {
                int asked = what;
                Still.refused("put(" + bin + ", " + what + ", 0)", IndexOutOfBoundsException.class, FULL,
                        c -> c.put(bin, asked, 0));
            }
        }
        for (int what : new int[] {-1, 3, LEAST_INT, GREATEST_INT}) {
            Still.refused("put(0, " + what + ", 0)", IllegalArgumentException.class, FULL, c -> c.put(0, what, 0));
        }
        for (int lot : new int[] {-1, -2, -3, 6, 40, LEAST_INT, GREATEST_INT}) {
            for (int bin : new int[] {0, 4, 7}) {
                Still.refused("put(" + bin + ", 1, " + lot + ")", NoSuchElementException.class, FULL,
                        c -> c.put(bin, 1, lot));
            }
        }
    }

    private static void numbersThatAreNoLots() {
        Check.sentence("A BIN gets nothing (what 0), LOT n (1), a CARD n (2)");
        court = new TeaCourt();
        for (int n : new int[] {-1, 0, 40, LEAST_INT, GREATEST_INT}) {
            Check.due("a card of " + n + " without lots", -1, court.put(11, 2, n));
            Check.due("nothing, " + n + ", without lots", 8, court.put(11, 0, n));
            Check.due("look(11)", -3, court.look(11));
            Check.due("card(11)", 0, court.card(11));
        }
        court = Still.leaves(40);
        Check.due("the 40th lot", -1, court.put(0, 1, 39));
        Check.due("look(0)", 39, court.look(0));
        Check.due("the first lot", 0, court.put(0, 1, 0));
        Check.due("look(0)", 0, court.look(0));
    }

    private static void whatIsInABin() {
        Check.sentence("What is in a BIN, asked as a LOT: its number; -2: it is a CARD; -3: there is nothing.");
        court = Still.leaves(3);
        Check.due("of nothing", -3, court.look(5));
        court.put(5, 1, 2);
        Check.due("of lot 2", 2, court.look(5));
        court.put(5, 2, 2);
        Check.due("of a card of 2", -2, court.look(5));
        court.put(5, 0, 2);
        Check.due("of nothing again", -3, court.look(5));
    }

    private static void noBinToLookAt() {
        Check.sentence("-3: there is nothing. IndexOutOfBoundsException likewise.");
        for (int bin : new int[] {-1, 12, LEAST_INT, GREATEST_INT}) {
            Still.refused("look(" + bin + ")", IndexOutOfBoundsException.class, FULL, c -> c.look(bin));
        }
        court = new TeaCourt();
        Still.everything(court);
        Check.due("look(0)", -2, court.look(0));
        Check.due("look(11)", 1, court.look(11));
    }

    private static void noCard() {
        Check.sentence("The number on the CARD in a BIN; 0 if there is none.");
        court = Still.leaves(3);
        Check.due("of nothing", 0, court.card(5));
        court.put(5, 1, 2);
        Check.due("of lot 2", 0, court.card(5));
        court.put(5, 2, 2);
        Check.due("of a card of 2", 2, court.card(5));
        court.put(5, 0, 2);
        Check.due("of nothing again", 0, court.card(5));
    }

    private static void noBinForACard() {
        Check.sentence("0 if there is none. IndexOutOfBoundsException likewise.");
        for (int bin : new int[] {-1, 12, LEAST_INT, GREATEST_INT}) {
            Still.refused("card(" + bin + ")", IndexOutOfBoundsException.class, FULL, c -> c.card(bin));
        }
        court = new TeaCourt();
        court.put(0, 2, 3);
        court.put(11, 2, 4);
        Check.due("card(0)", 3, court.card(0));
        Check.due("card(11)", 4, court.card(11));
    }

    private static void notWeighedNoPartsNotDeep() {
        Check.sentence("3 KILOS (NONE: not weighed), 4 parts of a BLEND (0 of others), 5 how deep it lies (0 of others).");
        court = new TeaCourt();
        for (int kind = 0; kind < 5; kind++) {
            court.lot(kind, 0, 0);
            for (int what = 3; what < 6; what++) {
                Check.due("about(" + kind + ", " + what + ")", what == 3 ? -1 : 0, court.about(kind, what));
            }
        }
        for (int many = 1; many <= 4; many++) {
            for (int i = 0; i < many; i++) {
                court.part(0, 1000);
            }
            int blend = court.blend(0);
            Check.due("parts of a blend", many, court.about(blend, 4));
            Check.due("how deep a blend of lots lies", 1, court.about(blend, 5));
            Check.due("KILOS of a blend", -1, court.about(blend, 3));
        }
        court.part(5, 1);
        Check.due("how deep a blend of a blend lies", 2, court.about(court.blend(0), 5));
        Check.due("weighed as 0", 0, court.weigh(0, 0));
        Check.due("KILOS of what is weighed as 0", 0, court.about(0, 3));
    }

    private static void aboutNoLot() {
        Check.sentence("5 how deep it lies (0 of others). NoSuchElementException: no such LOT;"
                + " IllegalArgumentException: another what.");
        for (int lot : new int[] {-1, 6, 39, 40, LEAST_INT, GREATEST_INT}) {
            for (int what = 0; what < 6; what++) {
                int asked = what;
                court = new TeaCourt();
                Still.everything(court);
                Check.refused("about(" + lot + ", " + what + ")", NoSuchElementException.class,
                        () -> court.about(lot, asked));
            }
            Still.refused("about lot " + lot, NoSuchElementException.class, FULL, c -> c.about(lot, 0));
        }
        for (int what : new int[] {-1, 6, LEAST_INT, GREATEST_INT}) {
            for (int lot : new int[] {0, 5}) {
                Still.refused("about(" + lot + ", " + what + ")", IllegalArgumentException.class, FULL,
                        c -> c.about(lot, what));
            }
        }
    }

    public static void main(String[] args) {
        noLotsAtFirst();
        noWishesAtFirst();
        atMostForty();
        blendsAreLotsToo();
        noneComesAtForty();
        anotherKind();
        pricesAndDays();
        tenthsOfAKilo();
        atMostSoMuch();
        onceItIsWeighed();
        noNumber();
        belowZero();
        weighNoLot();
        kindOfWhatItHad();
        bins();
        noSuchBin();
        numbersThatAreNoLots();
        whatIsInABin();
        noBinToLookAt();
        noCard();
        noBinForACard();
        notWeighedNoPartsNotDeep();
        aboutNoLot();
        Check.end();
    }
}
