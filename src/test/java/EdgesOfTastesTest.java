import java.util.NoSuchElementException;
import java.util.function.Consumer;

/** Each sentence that names a boundary case, of promises 16 and 17 and of the terms that they use (TENTHS, too). */
public final class EdgesOfTastesTest {
    private static final int LEAST_INT = Integer.MIN_VALUE;
    private static final int GREATEST_INT = Integer.MAX_VALUE;
    private static final int[] NO_LOTS = {-1, 6, 39, 40, LEAST_INT, GREATEST_INT};
    private static final Consumer<TeaCourt> FULL = Still::everything;
    private static TeaCourt court;

    private static void tasted(int lot, int day, String... due) {
        for (int mark = 0; mark < 4; mark++) {
            Check.printed("taste(" + lot + ", " + mark + ", " + day + ")", court, due[mark],
                    court.taste(lot, mark, day));
        }
    }

    private static int blend(int day, int... lotsAndParts) {
        for (int i = 0; i < lotsAndParts.length; i += 2) {
            court.part(lotsAndParts[i], lotsAndParts[i + 1]);
        }
        return court.blend(day);
    }

    private static void oneOfEachKind(int day) {
        court = new TeaCourt();
        for (int kind = 0; kind < 5; kind++) {
            court.lot(kind, 0, day);
        }
    }

    private static void zeroWithoutAMiddle() {
        Check.sentence("LEAF: the MIDDLE; 0 without one.");
        oneOfEachKind(0);
        tasted(0, 0, "0", "0", "0", "0");
        tasted(1, 0, "0", "0", "0", "0");
        tasted(2, 0, "0", "1", "0", "0");
        tasted(3, 0, "0", "1", "0", "3");
        tasted(4, 0, "0", "1", "0", "0");
        // LOTS that hang together, but not with LOT 0, have none.
        Still.step(court, 0, 1, 2, 4, Still.row(60, 60, 60, 60));
        tasted(1, 0, "0", "0", "0", "0");
        tasted(2, 0, "0", "1", "0", "0");
        Still.step(court, 0, 0, 1, 2, Still.row(3, 5, 0, 0));
        tasted(0, 0, "0", "0", "0", "0");
        tasted(1, 0, "9/2", "5", "0", "0");
        tasted(2, 0, "63", "66", "0", "0");
    }

    private static void dust() {
        Check.sentence("DUST: that, for MARK 0 one and a half times it.");
        for (int step = -60; step <= 60; step += 24) {
            oneOfEachKind(0);
            Still.step(court, 0, 0, 1, 4, Still.row(step, step, step, step));
            String same = "" + step;
            tasted(1, 19999, "" + step / 2 * 3, same, same, same);
        }
    }

    private static void wholeThirtyDays() {
        Check.sentence("for each whole 30 days from its DAY to this day (12 at most; none ahead of it) a quarter more"
                + " for MARK 2, an eighth less for MARK 0.");
        for (int fresh : new int[] {0, 1, 5000, 9999}) {
            court = new TeaCourt();
            court.lot(4, 0, fresh);
            if (fresh > 0) {
                tasted(0, 0, "0", "1", "0", "0");
                tasted(0, fresh - 1, "0", "1", "0", "0");
            }
            tasted(0, fresh, "0", "1", "0", "0");
            for (int months = 1; months <= 12; months++) {
                String[] ahead = {Ratio.of(1 - months, 8) + "", "1", Ratio.of(months - 1, 4) + "", "0"};
                String[] behind = {Ratio.of(-months, 8) + "", "1", Ratio.of(months, 4) + "", "0"};
                tasted(0, fresh + 30 * months - 1, ahead);
                tasted(0, fresh + 30 * months, behind);
            }
            tasted(0, fresh + 390, "-3/2", "1", "3", "0");
            tasted(0, fresh + 3600, "-3/2", "1", "3", "0");
            tasted(0, 19999, "-3/2", "1", "3", "0");
        }
    }

    private static void longAheadOfItsDay() {
        Check.sentence("(12 at most; none ahead of it)");
        court = new TeaCourt();
        court.lot(4, 0, 9999);
        for (int day : new int[] {0, 9639, 9938, 9939, 9940, 9968, 9969, 9970, 9998}) {
            tasted(0, day, "0", "1", "0", "0");
        }
    }

    private static void onlyAgedOnesAge() {
        Check.sentence("AGED: as ROLLED, and for each whole 30 days from its DAY to this day");
        oneOfEachKind(0);
        for (int lot = 0; lot < 4; lot++) {
            String[] due = {"0", lot >= 2 ? "1" : "0", "0", lot == 3 ? "3" : "0"};
            tasted(lot, 0, due);
            tasted(lot, 19999, due);
        }
    }

    private static void smokedInItself() {
        Check.sentence("for MARK 3 more by the sum of the parts that are SMOKED (in it itself) by the sum of all.");
        oneOfEachKind(0);
        int all = blend(0, 3, 1);
        tasted(all, 0, "0", "1", "0", "4");
        int none = blend(0, 2, 1000, 0, 1000);
        tasted(none, 0, "0", "1/2", "0", "0");
        int least = blend(0, 3, 1, 0, 1000, 0, 1000, 0, 1000);
        tasted(least, 0, "0", "1/3001", "0", "4/3001");
        int twice = blend(0, 3, 2, 0, 5, 3, 3);
        tasted(twice, 0, "0", "1/2", "0", "2");
        int over = blend(0, all, 1);
        tasted(over, 0, "0", "1", "0", "4");
        int both = blend(0, all, 1, 3, 1);
        // 4 and 3 by 2, and 1 by 2 for the one that is SMOKED itself.
        tasted(both, 0, "0", "1", "0", "4");
    }

    private static void partsOfABlend() {
        Check.sentence("BLEND: the sum of its parts times their TASTES (on this day) by the sum of its parts;");
        oneOfEachKind(0);
        // Its own DAY does not matter, but those of its parts.
        int blend = blend(9999, 4, 1);
        tasted(blend, 29, "0", "1", "0", "0");
        tasted(blend, 30, "-1/8", "1", "1/4", "0");
        int wide = blend(0, 4, 1, 0, 1000, 0, 1000, 0, 1000);
        tasted(wide, 360, "-3/6002", "1/3001", "3/3001", "0");
        int again = blend(0, 4, 1000, 4, 1000, 4, 1000, 4, 1000);
        tasted(again, 360, "-3/2", "1", "3", "0");
    }

    private static void tasteDays() {
        Check.sentence("The TASTE on a day is printed: how many bytes. Exceptions likewise; IllegalArgumentException: the"
                + " day is not 0 to 19999.");
        for (int day : new int[] {-1, 20000, LEAST_INT, GREATEST_INT}) {
            Still.refused("taste on " + day, IllegalArgumentException.class, FULL, c -> c.taste(4, 2, day));
        }
        for (int mark : new int[] {-1, 4, LEAST_INT, GREATEST_INT}) {
            Still.refused("taste for " + mark, IndexOutOfBoundsException.class, FULL, c -> c.taste(4, mark, 0));
        }
        for (int lot : NO_LOTS) {
            Still.refused("taste of lot " + lot, NoSuchElementException.class, FULL, c -> c.taste(lot, 0, 0));
        }
        oneOfEachKind(0);
        Check.printed("taste on 0", court, "0", court.taste(4, 2, 0));
        Check.printed("taste on 19999", court, "3", court.taste(4, 2, 19999));
    }

    /** The TENTHS of a LOT for a MARK on a day, as a WISH sees them. */
    private static void tenths(String what, int due, int lot, int mark, int day) {
        court.weigh(lot, Still.bits(1));
        court.put(0, 1, lot);
        court.wish(mark, due, due);
        Check.due("TENTHS of " + what + " within " + due, 1, court.least(day, 10));
        court.wish(mark, due + 1, 9999);
        Check.due("TENTHS of " + what + " above " + due, -1, court.least(day, 10));
        court.wish(mark, -9999, due - 1);
        Check.due("TENTHS of " + what + " below " + due, -1, court.least(day, 10));
        court.wish(mark, 1, 0);
    }

    private static void halvesOfTenths() {
        Check.sentence("TENTHS: ten times the TASTE and a half, the greatest whole number not above.");
        court = new TeaCourt();
        court.lot(0, 0, 0);
        court.lot(0, 0, 0);
        court.lot(2, 0, 0);
        Still.step(court, 0, 0, 1, 4, Still.row(-1, -1, 1, 60));
        tenths("1/20", 1, blend(0, 2, 1, 0, 19), 1, 0);
        tenths("1/21", 0, blend(0, 2, 1, 0, 20), 1, 0);
        tenths("1/19", 1, blend(0, 2, 1, 0, 18), 1, 0);
        tenths("3/20", 2, blend(0, 2, 3, 0, 17), 1, 0);
        tenths("149/1000", 1, blend(0, 2, 149, 0, 851), 1, 0);
        tenths("-1/20", 0, blend(0, 1, 1, 0, 19), 1, 0);
        tenths("-1/21", 0, blend(0, 1, 1, 0, 20), 1, 0);
        tenths("-1/19", -1, blend(0, 1, 1, 0, 18), 1, 0);
        tenths("-3/20", -1, blend(0, 1, 3, 0, 17), 1, 0);
        tenths("-3/19", -2, blend(0, 1, 3, 0, 16), 1, 0);
        tenths("0", 0, 0, 0, 0);
        tenths("-1", -10, 1, 1, 0);
        tenths("60", 600, 1, 3, 0);
        tenths("1/4001", 0, blend(0, 1, 1, 0, 1000, 0, 1000, 0, 1000), 2, 0);
    }

    private static void tenthsOnThisDay() {
        Check.sentence("the sum of x times TENTHS (on this day) within it.");
        court = new TeaCourt();
        court.lot(4, 0, 100);
        int[] days = {0, 100, 129, 130, 159, 160, 459, 460, 19999};
        int[] more = {0, 0, 0, 3, 3, 5, 28, 30, 30};
        // An eighth is 1.25 tenths. With the half: -0.75 (so -1), -2, -13.25 (so -14), -14.5 (so -15).
        int[] less = {0, 0, 0, -1, -1, -2, -14, -15, -15};
        for (int i = 0; i < days.length; i++) {
            tenths("an aged one on " + days[i], more[i], 0, 2, days[i]);
            tenths("an aged one on " + days[i], less[i], 0, 0, days[i]);
        }
    }

    private static void widestTenths() {
        Check.sentence("TENTHS: ten times the TASTE and a half, the greatest whole number not above.");
        for (int sign = -1; sign <= 1; sign += 2) {
            court = new TeaCourt();
            for (int lot = 0; lot < 6; lot++) {
                court.lot(1, 0, 0);
            }
            court.sit(0);
            for (int lot = 0; lot < 6; lot++) {
                court.pour(lot, 4, Still.row(60 * sign, 60 * sign, 60 * sign, 60 * sign));
            }
            tenths("a dust of " + 450 * sign, 4500 * sign, 5, 0, 0);
            tenths("a dust of " + 300 * sign, 3000 * sign, 5, 3, 0);
        }
    }

    private static void stale(int lot, int n, int due) {
        Check.due("stale(" + lot + ", " + n + ")", due, court.stale(lot, n));
    }

    private static void byMoreThanN() {
        Check.sentence("the first day from its DAY on at which the TASTE for some MARK differs by more than n from that"
                + " on its DAY;");
        for (int fresh : new int[] {0, 1, 29, 30, 9999}) {
            court = new TeaCourt();
            court.lot(4, 0, fresh);
            // A quarter a month: 1 is no more than 1 (behind four months), 2 no more than 2.
            stale(0, 0, fresh + 30);
            stale(0, 1, fresh + 150);
            stale(0, 2, fresh + 270);
            stale(0, 3, -1);
            stale(0, 4, -1);
            stale(0, 99, -1);
        }
    }

    private static void staleFromItsDayOn() {
        Check.sentence("the first day from its DAY on at which the TASTE for some MARK differs by more than n from that"
                + " on its DAY;");
        oneOfEachKind(1000);
        int[][] due = {{0, 1030}, {1000, 1030}, {1029, 1030}, {1030, 1060}, {1329, 1330}, {1330, 1360}, {1359, 1360},
            {1360, -1}, {9999, -1}};
        for (int[] d : due) {
            int blend = blend(d[0], 4, 1);
            stale(blend, 0, d[1]);
        }
        int twelve = court.count(0);
        // From two months on there are ten left, two and a half more: from four months on eight, just two.
        stale(blend(1060, 4, 1), 2, 1060 + 270);
        stale(blend(1119, 4, 1), 2, 1090 + 270);
        stale(blend(1120, 4, 1), 2, -1);
        stale(blend(1240, 4, 1), 1, -1);
        stale(blend(1239, 4, 1), 1, 1360);
        Check.due("lots", twelve + 5, court.count(0));
    }

    private static void lateBlends() {
        Check.sentence("STALE by n: the first day from its DAY on");
        court = new TeaCourt();
        court.lot(4, 0, 9999);
        court.lot(4, 0, 0);
        court.lot(0, 0, 0);
        stale(blend(0, 0, 1), 0, 10029);
        stale(blend(0, 0, 1), 2, 9999 + 270);
        stale(blend(9999, 0, 1), 2, 9999 + 270);
        // The last day on which anything can change: the one is through, the other a quarter short.
        stale(blend(9999, 0, 12, 2, 23), 1, 9999 + 360);
        stale(blend(9999, 0, 12, 2, 24), 1, -1);
        // Some parts early, some late.
        stale(blend(0, 0, 1, 1, 1), 1, 270);
        stale(blend(0, 0, 1, 1, 2), 2, 9999 + 30);
        stale(blend(0, 0, 1, 1, 2), 1, 210);
        int inner = blend(0, 0, 1000, 1, 1);
        stale(blend(360, inner, 1, 2, 1000), 0, 10029);
    }

    private static void neverStale() {
        Check.sentence("none, if there is no such day.");
        oneOfEachKind(50);
        Still.step(court, 0, 0, 1, 4, Still.row(60, 60, 60, 60));
        for (int lot = 0; lot < 4; lot++) {
            stale(lot, 0, -1);
            stale(lot, 99, -1);
        }
        stale(blend(0, 0, 1, 1, 1, 2, 1, 3, 1), 0, -1);
        stale(blend(9999, 4, 1000), 0, -1);
        stale(blend(0, 4, 1000), 3, -1);
        stale(blend(0, 4, 1000), 99, -1);
        Still.answers("stale of a leaf", -1, FULL, c -> c.stale(0, 0));
        Still.answers("stale by 3", -1, FULL, c -> c.stale(4, 3));
    }

    private static void wrongStale() {
        Check.sentence("The day on which it is STALE by n; NONE. NoSuchElementException likewise;"
                + " IllegalArgumentException: n is not 0 to 99.");
        for (int n : new int[] {-1, 100, LEAST_INT, GREATEST_INT}) {
            Still.refused("stale(4, " + n + ")", IllegalArgumentException.class, FULL, c -> c.stale(4, n));
            Still.refused("stale(0, " + n + ")", IllegalArgumentException.class, FULL, c -> c.stale(0, n));
        }
        for (int lot : NO_LOTS) {
            Still.refused("stale(" + lot + ", 0)", NoSuchElementException.class, FULL, c -> c.stale(lot, 0));
        }
        oneOfEachKind(0);
        stale(4, 0, 30);
        stale(4, 99, -1);
    }

    public static void main(String[] args) {
        zeroWithoutAMiddle();
        dust();
        wholeThirtyDays();
        longAheadOfItsDay();
        onlyAgedOnesAge();
        smokedInItself();
        partsOfABlend();
        tasteDays();
        halvesOfTenths();
        tenthsOnThisDay();
        widestTenths();
        byMoreThanN();
        staleFromItsDayOn();
        lateBlends();
        neverStale();
        wrongStale();
        Check.end();
    }
}
