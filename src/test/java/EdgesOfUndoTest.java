import java.util.NoSuchElementException;
import java.util.function.Consumer;

/** Each sentence that names a boundary case, of promises 23 and 24, of section 5, and of an object's calls. */
public final class EdgesOfUndoTest {
    private static final int LEAST_INT = Integer.MIN_VALUE;
    private static final int GREATEST_INT = Integer.MAX_VALUE;
    private static final Consumer<TeaCourt> FULL = Still::everything;
    private static TeaCourt court;

    private static void undone(String what, int due) {
        Check.due("undo() " + what, due, court.undo());
    }

    private static void noneWithoutOne() {
        Check.sentence("0 lot, 1 weigh, 2 put, 3 pour, 4 sit, 5 blend, 6 wish; NONE without one.");
        Still.answers("undo() of a new object", -1, c -> { }, c -> c.undo());
        Still.answers("undo() when all is undone", -1, c -> {
            c.lot(0, 5, 5);
            c.part(0, 1);
            c.taste(0, 0, 0);
            c.undo();
        }, c -> c.undo());
        Still.answers("undo() when twelve are undone", -1, c -> {
            Still.everything(c);
            for (int i = 0; i < 12; i++) {
                c.undo();
            }
        }, c -> c.undo());
    }

    private static void eachOfSeven() {
        Check.sentence("The latest act that can be is undone: 0 lot, 1 weigh, 2 put, 3 pour, 4 sit, 5 blend, 6 wish;");
        court = new TeaCourt();
        court.lot(2, 5, 0);
        court.sit(0);
        court.pour(0, -1, 0);
        court.part(0, 1);
        court.blend(0);
        court.weigh(0, Still.bits(1));
        court.put(0, 1, 0);
        court.wish(1, 11, 11);
        int[] due = {6, 2, 1, 5, 3, 4, 0};
        for (int i = 0; i < 7; i++) {
            Check.due("acts", 7 - i, court.count(5));
            Check.due("least ahead of undo " + i, i == 1 ? 1 : -1, court.least(0, 1));
            Check.due("lots ahead of undo " + i, i < 4 ? 2 : 1, court.count(0));
            Check.due("cups ahead of undo " + i, i < 5 ? 1 : 0, court.count(2));
            Check.due("sittings ahead of undo " + i, i < 6 ? 1 : 0, court.count(1));
            Check.due("KILOS ahead of undo " + i, i < 3 ? 10 : -1, court.about(0, 3));
            Check.due("bin 0 ahead of undo " + i, i < 2 ? 0 : -3, court.look(0));
            undone("" + i, due[i]);
        }
        Check.due("acts", 0, court.count(5));
        Check.due("lots", 0, court.count(0));
        undone("of nothing", -1);
    }

    private static void ofTheLatestTwelve() {
        Check.sentence("UNDO takes back the latest of these that was done and has not been taken back, of the latest 12:");
        for (int acts = 0; acts <= 30; acts++) {
            court = new TeaCourt();
            for (int i = 1; i <= acts; i++) {
                court.put(0, 2, i);
            }
            int kept = Math.min(12, acts);
            Check.due("acts that can be undone, of " + acts, kept, court.count(5));
            for (int i = 1; i <= kept; i++) {
                undone("number " + i + " of " + acts, 2);
                Check.due("the card behind it", acts - i, court.card(0));
                Check.due("acts behind it", kept - i, court.count(5));
            }
            undone("of no act", -1);
            Check.due("the card behind it", acts - kept, court.card(0));
            Check.due("acts behind it", 0, court.count(5));
        }
    }

    private static void takenBackOnceOnly() {
        Check.sentence("the latest of these that was done and has not been taken back, of the latest 12:");
        court = new TeaCourt();
        for (int i = 1; i <= 13; i++) {
            court.put(0, 2, i);
        }
        undone("the 13th", 2);
        undone("the 12th", 2);
        court.put(0, 2, 100);
        Check.due("acts", 11, court.count(5));
        undone("the new one", 2);
        Check.due("card", 11, court.card(0));
        court.put(0, 2, 101);
        court.put(0, 2, 102);
        court.put(0, 2, 103);
        Check.due("acts", 12, court.count(5));
        int[] due = {102, 101, 11, 10, 9, 8, 7, 6, 5, 4, 3, 2};
        for (int card : due) {
            undone("down to " + card, 2);
            Check.due("card", card, court.card(0));
        }
        undone("of no act", -1);
        Check.due("card", 2, court.card(0));
    }

    private static void refusedCallsAreNoActs() {
        Check.sentence("calls that made nothing, or were refused, are no acts;");
        court = Still.leaves(1);
        court.put(5, 2, 5);
        int acts = court.count(5);
        Check.refused("lot", IllegalArgumentException.class, () -> court.lot(5, 0, 0));
        Check.refused("weigh", NoSuchElementException.class, () -> court.weigh(1, 0));
        Check.refused("weigh", IllegalArgumentException.class, () -> court.weigh(0, 0x80000001));
        Check.refused("put", IndexOutOfBoundsException.class, () -> court.put(12, 0, 0));
        Check.refused("put", IllegalArgumentException.class, () -> court.put(0, 3, 0));
        Check.refused("put", NoSuchElementException.class, () -> court.put(0, 1, 1));
        Check.refused("pour", IllegalStateException.class, () -> court.pour(0, 0, 0));
        Check.refused("sit", IndexOutOfBoundsException.class, () -> court.sit(8));
        Check.refused("blend", IllegalStateException.class, () -> court.blend(0));
        Check.refused("wish", IndexOutOfBoundsException.class, () -> Still.wished(court, 4, 0, 0));
        Check.refused("wish", IllegalArgumentException.class, () -> Still.wished(court, 0, 0, 10000));
        court.part(0, 1);
        Check.refused("blend", IllegalArgumentException.class, () -> court.blend(10000));
        Check.due("acts behind all of these", acts, court.count(5));
        court.sit(0);
        Check.refused("pour", NoSuchElementException.class, () -> court.pour(1, 0, 0));
        Check.refused("pour", IllegalArgumentException.class, () -> court.pour(0, 5, 0));
        for (int i = 0; i < 10; i++) {
            court.pour(0, 0, 0);
        }
        Check.refused("pour", UnsupportedOperationException.class, () -> court.pour(0, 0, 0));
        for (int i = 0; i < 10; i++) {
            undone("a cup", 3);
        }
        undone("the sitting", 4);
        undone("the card", 2);
        undone("of no act, as 13 were done", -1);
    }

    private static void whatMadeNothingIsNoAct() {
        Check.sentence("calls that made nothing, or were refused, are no acts;");
        Consumer<TeaCourt> full = c -> {
            for (int i = 0; i < 60; i++) {
                c.sit(1);
            }
            for (int i = 0; i < 40; i++) {
                c.lot(0, i, 0);
            }
            c.part(3, 4);
            c.part(3, 4);
            c.part(3, 4);
            c.part(3, 4);
        };
        Still.answers("a 41st lot", -1, full, c -> c.lot(0, 0, 0));
        Still.answers("a 61st sitting", -1, full, c -> c.sit(0));
        Still.answers("a 41st lot, a blend", -1, full, c -> c.blend(0));
        Still.answers("a fifth part", -1, full, c -> c.part(0, 1));
        court = new TeaCourt();
        Still.everything(court);
        court.part(0, 1);
        court.least(10, 20);
        court.share(0);
        court.taste(0, 0, 0);
        court.scale(1, 0, 1);
        undone("the latest that is one, a wish", 6);
        Check.due("parts are no acts", 3, court.count(3));
    }

    private static void partsOfABlendAreGone() {
        Check.sentence("(The PARTS of a blend() are not collected again;");
        court = Still.leaves(2);
        court.part(0, 1);
        court.part(1, 2);
        court.blend(0);
        undone("the blend", 5);
        Check.due("parts", 0, court.count(3));
        Check.refused("a blend of them", IllegalStateException.class, () -> court.blend(0));
        for (int i = 0; i < 4; i++) {
            Check.due("a part", i + 1, court.part(1, 1));
        }
        court.blend(0);
        court.part(0, 5);
        undone("a full blend", 5);
        Check.due("what was collected behind it stays", 1, court.count(3));
        Check.due("its price", 1, court.about(court.blend(0), 1));
        Check.due("its parts", 1, court.about(2, 4));
    }

    private static void aLotThatIsTakenAway() {
        Check.sentence("a LOT that is taken away is no PART any more.");
        for (int place = 0; place < 4; place++) {
            for (int kind = 0; kind < 2; kind++) {
                court = new TeaCourt();
                court.lot(0, 100, 0);
                court.lot(0, 1000, 0);
                court.part(1, 1);
                int gone = kind == 0 ? court.lot(0, 9999, 0) : court.blend(0);
                if (kind == 0) {
                    court.blend(0);
                    court.undo();
                }
                int size = 0;
                int worth = 0;
                for (int i = 0; i < 4; i++) {
                    court.part(i == place ? gone : i % 2, i + 1);
                    size += i == place ? 0 : i + 1;
                    worth += i == place ? 0 : (i + 1) * (i % 2 == 0 ? 100 : 1000);
                }
                undone("the lot", kind == 0 ? 0 : 5);
                Check.due("parts", 3, court.count(3));
                int blend = court.blend(0);
                Check.due("a blend of the others", gone, blend);
                Check.due("its price", worth / size, court.about(blend, 1));
                Check.due("its parts", 3, court.about(blend, 4));
                Check.due("how deep it lies", 1, court.about(blend, 5));
            }
        }
        court = Still.leaves(1);
        for (int i = 0; i < 4; i++) {
            court.part(0, 1);
        }
        undone("the only lot", 0);
        Check.due("parts", 0, court.count(3));
        court.lot(0, 7, 0);
        Check.due("parts behind another of its number", 0, court.count(3));
    }

    private static void theSittingAhead() {
        Check.sentence("Behind sit() that is undone the SITTING ahead is the latest again.");
        court = Still.leaves(2);
        court.sit(3);
        court.pour(0, 0, 0);
        court.sit(5);
        court.pour(1, 0, 0);
        undone("the cup", 3);
        undone("the sitting", 4);
        Check.due("the sitting ahead goes on", 1, court.pour(1, 1, 7 << 24));
        Check.due("its taster has two cups", 2, court.taster(3, 2));
        Check.printed("its step leads from its latest cup", court, "7", court.scale(3, 0, 1));
        for (int i = 2; i < 10; i++) {
            court.pour(0, 0, 0);
        }
        court.sit(3);
        Check.due("a new one has room", 0, court.pour(0, 0, 0));
        court.undo();
        court.undo();
        Check.refused("the one ahead is full", UnsupportedOperationException.class, () -> court.pour(0, 0, 0));
        court = Still.leaves(1);
        court.sit(0);
        court.sit(1);
        undone("the second", 4);
        Check.due("the first goes on", 0, court.pour(0, 0, 0));
        Check.due("its taster", 1, court.taster(0, 2));
        undone("the cup", 3);
        undone("the first", 4);
        Check.refused("none is ahead", IllegalStateException.class, () -> court.pour(0, 0, 0));
        Check.due("the next is number 0", 0, court.sit(7));
    }

    private static void whatTheyMadeIsNoMore() {
        Check.sentence("lot(), weigh(), put(), pour(), sit(), blend(), wish() (what they made is no more).");
        court = Still.leaves(3);
        Still.step(court, 0, 0, 2, 4, Still.row(1, 2, 3, 4));
        court.undo();
        court.undo();
        court.undo();
        Check.due("no step", 0, court.taster(0, 3));
        Check.due("no cup", 0, court.count(2));
        court.weigh(2, Still.bits(1));
        undone("weigh", 1);
        undone("lot 2", 0);
        Check.due("another lot 2", 2, court.lot(4, 3, 50));
        int[] due = {4, 3, 50, -1, 0, 0};
        for (int what = 0; what < 6; what++) {
            Check.due("about(2, " + what + ")", due[what], court.about(2, what));
        }
        undone("lot 2", 0);
        for (int lot : new int[] {0, 1, 1}) {
            court.part(lot, 10);
        }
        Check.due("a blend as lot 2", 2, court.blend(0));
        undone("the blend", 5);
        Check.due("a leaf as lot 2", 2, court.lot(4, 3, 50));
        for (int what = 0; what < 6; what++) {
            Check.due("about(2, " + what + ") where a blend was", due[what], court.about(2, what));
        }
        Check.printed("its taste where a blend was", court, "1/4", court.taste(2, 2, 80));
        court.sit(0);
        Check.due("it may be poured, as it is no blend", 0, court.pour(2, 0, 0));
    }

    private static void theWishAhead() {
        Check.sentence("lot(), weigh(), put(), pour(), sit(), blend(), wish() (what they made is no more).");
        court = new TeaCourt();
        court.lot(2, 5, 0);
        court.weigh(0, Still.bits(1));
        court.put(0, 1, 0);
        // Its TENTHS for MARK 1 are 10: each wish but the last is undone to one that tells otherwise.
        int[][] wishes = {{10, 10}, {11, 20}, {1, 0}, {0, 9}, {-5, 15}, {11, 11}, {10, 11}};
        boolean[] kept = {true, false, true, false, true, false, true};
        for (int i = 0; i < wishes.length; i++) {
            court.wish(1, wishes[i][0], wishes[i][1]);
        }
        for (int i = wishes.length - 1; i >= 0; i--) {
            Check.due("least with wish " + i, kept[i] ? 1 : -1, court.least(0, 10));
            undone("wish " + i, 6);
        }
        Check.due("least with no wish", 1, court.least(0, 10));
        // An undone wish leaves neither of its ends: none, and then from -9999 to 9.
        court.wish(1, -9999, 9);
        court.wish(1, -9999, 9999);
        undone("the greatest end", 6);
        Check.due("least, at most 9", -1, court.least(0, 10));
        court.wish(1, 11, 9999);
        court.wish(1, -9999, 9999);
        undone("the least end", 6);
        Check.due("least, at least 11", -1, court.least(0, 10));
    }

    private static void aLotWhereADeepBlendWas() {
        Check.sentence("lot(), weigh(), put(), pour(), sit(), blend(), wish() (what they made is no more).");
        court = new TeaCourt();
        court.lot(2, 1, 0);
        court.part(0, 1000);
        court.blend(0);
        court.part(0, 1000);
        court.part(1, 7);
        Check.due("a deep blend", 2, court.blend(0));
        Check.due("how deep it lies", 2, court.about(2, 5));
        undone("the deep blend", 5);
        court.part(0, 3);
        Check.due("a blend of one part in its place", 2, court.blend(0));
        Check.due("its parts", 1, court.about(2, 4));
        Check.due("how deep it lies", 1, court.about(2, 5));
        Check.printed("its taste", court, "1", court.taste(2, 1, 0));
        undone("that blend", 5);
        Check.due("an aged one in its place", 2, court.lot(4, 9, 0));
        Check.due("its parts", 0, court.about(2, 4));
        Check.due("how deep it lies", 0, court.about(2, 5));
        Check.printed("its taste", court, "1/4", court.taste(2, 2, 30));
    }

    private static void octets() {
        Check.sentence("Byte k of the PAGE; NONE.");
        court = new TeaCourt();
        for (int k : new int[] {LEAST_INT, -1, 0, 1, GREATEST_INT}) {
            Check.due("octet(" + k + ") of an empty page", -1, court.octet(k));
        }
        court.lot(4, 0, 0);
        String[] pages = {"-11/8", "1", "11/4", "0"};
        for (int mark = 0; mark < 4; mark++) {
            int length = court.taste(0, mark, 359);
            Check.due("bytes", pages[mark].length(), length);
            Check.due("count(4)", length, court.count(4));
            for (int k = 0; k < length; k++) {
                Check.due("octet(" + k + ") of " + pages[mark], pages[mark].charAt(k), court.octet(k));
            }
            for (int k : new int[] {LEAST_INT, -2, -1, length, length + 1, 5, 6, 1000, GREATEST_INT}) {
                Check.due("octet(" + k + ") of " + pages[mark], -1, court.octet(k));
            }
        }
        Still.answers("octet(3) of three bytes", -1, FULL, c -> c.octet(3));
        Still.answers("octet(-1)", -1, FULL, c -> c.octet(-1));
        Still.answers("octet(0)", '7', FULL, c -> c.octet(0));
        Still.answers("octet(2)", '2', FULL, c -> c.octet(2));
    }

    private static void fractions() {
        Check.sentence("FRACTIONS are printed on the PAGE: p/q in lowest terms (- ahead of p), p alone if q is 1.");
        court = new TeaCourt();
        court.lot(0, 0, 0);
        court.lot(0, 0, 0);
        court.lot(2, 0, 0);
        Still.step(court, 0, 0, 1, 4, Still.row(60, -1, -60, 0));
        int[][] parts = {{1, 1}, {6, 4}, {60, 1}, {1, 60}, {7, 60}, {1000, 1000}, {59, 1000}, {1000, 59}};
        for (int[] p : parts) {
            court.part(1, p[0]);
            court.part(0, p[1]);
            int blend = court.blend(0);
            int all = p[0] + p[1];
            Check.printed("above 0", court, Ratio.of(60L * p[0], all) + "", court.taste(blend, 0, 0));
            Check.printed("below 0", court, Ratio.of(-p[0], all) + "", court.taste(blend, 1, 0));
            Check.printed("far below 0", court, Ratio.of(-60L * p[0], all) + "", court.taste(blend, 2, 0));
            Check.printed("0", court, "0", court.taste(blend, 3, 0));
        }
        Check.printed("a whole one", court, "60", court.taste(1, 0, 0));
        Check.printed("a whole one below 0", court, "-1", court.taste(1, 1, 0));
        court.part(1, 1000);
        court.part(1, 1);
        court.part(0, 1000);
        court.part(0, 999);
        int blend = court.blend(0);
        Check.printed("1001/3000 less", court, "-1001/3000", court.taste(blend, 1, 0));
        Check.printed("60 times that", court, "1001/50", court.taste(blend, 0, 0));
    }

    private static void fiveHundredAndTwelveActs() {
        Check.sentence("An object is used for at most 512 calls after it has been made;");
        court = new TeaCourt();
        for (int i = 1; i < 512; i++) {
            court.put(0, 2, i);
        }
        Check.due("card(0) as the 512th call", 511, court.card(0));
        court = new TeaCourt();
        for (int i = 1; i < 499; i++) {
            court.put(0, 2, i);
        }
        for (int i = 0; i < 12; i++) {
            undone("of 498", 2);
        }
        undone("behind twelve", -1);
        Check.due("card(0) as the 512th call", 486, court.card(0));
        court = new TeaCourt();
        for (int i = 1; i < 512; i++) {
            court.wish(i % 4, -i, i);
        }
        Check.due("count(5) as the 512th call", 12, court.count(5));
        court = new TeaCourt();
        for (int i = 1; i < 512; i++) {
            Check.refused("pour(0, 0, 0)", IllegalStateException.class, () -> court.pour(0, 0, 0));
        }
        Check.due("look(0) as the 512th call", -3, court.look(0));
    }

    private static void fiveHundredAndTwelveLotsAndCups() {
        Check.sentence("An object is used for at most 512 calls after it has been made;");
        court = Still.leaves(39);
        for (int i = 0; i < 235; i++) {
            Check.due("lot 39", 39, court.lot(i % 5, i, 0));
            undone("lot 39", 0);
        }
        Check.due("lot 39", 39, court.lot(3, 0, 0));
        Check.due("a 41st", -1, court.lot(0, 0, 0));
        Check.due("about(39, 0) as the 512th call", 3, court.about(39, 0));
        court = Still.leaves(7);
        for (int i = 0; i < 125; i++) {
            Check.due("sitting 0", 0, court.sit(i % 8));
            Check.due("its first cup", 0, court.pour(i % 7, 4, 0));
            undone("the cup", 3);
            undone("the sitting", 4);
        }
        court.sit(0);
        court.pour(0, 4, 0);
        court.pour(1, 4, 5 << 24);
        court.pour(0, 4, 0);
        Check.due("TRUST as the 512th call", 4, court.taster(0, 0));
    }

    /** Calls that only ask, over and over, until the 512th. */
    private static void fiveHundredAndTwelveQuestions() {
        Check.sentence("An object is used for at most 512 calls after it has been made;");
        for (int which = 0; which < 4; which++) {
            court = new TeaCourt();
            Still.everything(court);
            // 33 calls made it, and the page is read by up to 5.
            for (int call = 34; call <= 507; call++) {
                if (which == 0) {
                    Check.due("taste", 3, court.taste(4, 2, 600));
                } else if (which == 1) {
                    Check.due("least", 3, court.least(10, 20));
                } else if (which == 2) {
                    Check.due("stale", 430, court.stale(5, 0));
                } else {
                    Check.due("part", call < 36 ? call - 31 : -1, court.part(0, 1));
                }
            }
            Check.same("the page at the end", which == 1 ? "47/4" : "7/2", Check.page(court));
        }
    }

    public static void main(String[] args) {
        noneWithoutOne();
        eachOfSeven();
        ofTheLatestTwelve();
        takenBackOnceOnly();
        refusedCallsAreNoActs();
        whatMadeNothingIsNoAct();
        partsOfABlendAreGone();
        aLotThatIsTakenAway();
        theSittingAhead();
        whatTheyMadeIsNoMore();
        theWishAhead();
        aLotWhereADeepBlendWas();
        octets();
        fractions();
        fiveHundredAndTwelveActs();
        fiveHundredAndTwelveLotsAndCups();
        fiveHundredAndTwelveQuestions();
        Check.end();
    }
}
