import java.util.NoSuchElementException;

/** Promises 16 (taste) and 17 (stale). */
public final class TasteTest {
    private static TeaCourt court;

    private static void tasted(int lot, int mark, int day, String due) {
        Check.printed("taste(" + lot + ", " + mark + ", " + day + ")", court, due, court.taste(lot, mark, day));
    }

    private static void tasted(int lot, int day, String... due) {
        for (int mark = 0; mark < 4; mark++) {
            tasted(lot, mark, day, due[mark]);
        }
    }

    private static void stale(int lot, int n, int due) {
        Check.due("stale(" + lot + ", " + n + ")", due, court.stale(lot, n));
    }

    /** LOTS 0 to 4 of KINDS 0 to 4 (days 100), and 5, a LEAF; all but 5 have the MIDDLE 5, 7, -9, 0 (0 itself 0). */
    private static void begin() {
        court = new TeaCourt();
        for (int kind = 0; kind < 5; kind++) {
            court.lot(kind, 0, 100);
        }
        court.lot(0, 0, 0);
        for (int lot = 1; lot < 5; lot++) {
            court.sit(lot);
            court.pour(0, -1, 0);
            court.pour(lot, 4, CupsTest.row(5, 7, -9, 0));
        }
    }

    private static void kindsWithAMiddle() {
        begin();
        tasted(0, 0, "0", "0", "0", "0");
        tasted(1, 0, "15/2", "7", "-9", "0");
        tasted(2, 0, "5", "8", "-9", "0");
        tasted(3, 0, "5", "8", "-9", "3");
        tasted(4, 0, "5", "8", "-9", "0");
        tasted(4, 160, "19/4", "8", "-17/2", "0");
        tasted(5, 0, "0", "0", "0", "0");
    }

    private static void kindsWithoutAMiddle() {
        court = new TeaCourt();
        for (int kind = 0; kind < 5; kind++) {
            court.lot(kind, 0, 100);
        }
        tasted(0, 19999, "0", "0", "0", "0");
        tasted(1, 19999, "0", "0", "0", "0");
        tasted(2, 19999, "0", "1", "0", "0");
        tasted(3, 19999, "0", "1", "0", "3");
        tasted(4, 100, "0", "1", "0", "0");
        tasted(4, 19999, "-3/2", "1", "3", "0");
    }

    private static void agedOnesChangeWithTheDays() {
        court = new TeaCourt();
        court.lot(4, 0, 100);
        int[] days = {0, 99, 100, 129, 130, 159, 160, 190, 220, 430, 459, 460, 489, 490, 19999};
        String[] first = {"0", "0", "0", "0", "-1/8", "-1/8", "-1/4", "-3/8", "-1/2", "-11/8", "-11/8", "-3/2", "-3/2",
            "-3/2", "-3/2"};
        String[] third = {"0", "0", "0", "0", "1/4", "1/4", "1/2", "3/4", "1", "11/4", "11/4", "3", "3", "3", "3"};
        for (int i = 0; i < days.length; i++) {
            tasted(0, days[i], first[i], "1", third[i], "0");
        }
    }

    private static void blendsTasteOfTheirParts() {
        begin();
        court.part(1, 1);
        court.part(3, 2);
        court.part(4, 3);
        court.part(3, 4);
        court.blend(5000);
        // By 10: 15/2 + 10 + 15 (less 3/8 a month) + 20; 7 + 16 + 24 + 32; ..; 18 for SMOKED and 6 more.
        tasted(6, 100, "21/4", "79/10", "-9", "12/5");
        tasted(6, 220, "51/10", "79/10", "-87/10", "12/5");
        court.part(6, 1);
        court.part(3, 1);
        court.part(0, 2);
        court.blend(0);
        // Of the blend inside it no smoke counts once more.
        tasted(7, 100, "41/16", "159/40", "-9/2", "8/5");
        court.part(6, 1000);
        court.blend(0);
        tasted(8, 100, "21/4", "79/10", "-9", "12/5");
    }

    private static void tasteIsRefusedInOrder() {
        court = new TeaCourt();
        court.lot(0, 0, 0);
        for (int lot : new int[] {-1, 1, 40}) {
            Check.refused("taste of lot " + lot, NoSuchElementException.class, () -> court.taste(lot, 4, -1));
        }
        for (int mark : new int[] {-1, 4}) {
            Check.refused("taste for mark " + mark, IndexOutOfBoundsException.class, () -> court.taste(0, mark, -1));
        }
        for (int day : new int[] {-1, 20000, Integer.MIN_VALUE, Integer.MAX_VALUE}) {
            Check.refused("taste on day " + day, IllegalArgumentException.class, () -> court.taste(0, 3, day));
        }
        Check.due("the page behind it", 0, court.count(4));
    }

    private static void staleOnesDiffer() {
        court = new TeaCourt();
        court.lot(4, 0, 100);
        court.lot(4, 0, 9999);
        court.lot(0, 0, 0);
        stale(0, 0, 130);
        stale(0, 1, 250);
        stale(0, 2, 370);
        stale(0, 3, -1);
        stale(0, 99, -1);
        stale(1, 0, 10029);
        stale(1, 2, 10269);
        for (int kind = 0; kind < 4; kind++) {
            court.lot(kind, 0, 0);
            stale(3 + kind, 0, -1);
        }
    }

    private static void staleBlends() {
        court = new TeaCourt();
        court.lot(4, 0, 100);
        court.lot(4, 0, 9999);
        court.lot(0, 0, 0);
        court.part(0, 1);
        court.blend(0);
        stale(3, 0, 130);
        court.part(0, 1);
        court.blend(129);
        stale(4, 0, 130);
        stale(4, 2, 370);
        court.part(0, 1);
        court.blend(130);
        // From a quarter on: two and a quarter more in all.
        stale(5, 0, 160);
        stale(5, 2, 400);
        court.part(0, 1);
        court.blend(460);
        stale(6, 0, -1);
        court.part(0, 1);
        court.part(2, 999);
        court.blend(0);
        stale(7, 0, 130);
        stale(7, 1, -1);
        court.part(0, 1);
        court.part(1, 1);
        court.blend(0);
        // Half of each: the first adds one and a half, the second as much.
        stale(8, 0, 130);
        stale(8, 1, 100 + 9 * 30);
        stale(8, 2, 9999 + 5 * 30);
        court.part(8, 1);
        court.part(2, 1);
        court.blend(9000);
        stale(9, 0, 9999 + 30);
        stale(9, 1, -1);
    }

    private static void staleIsRefused() {
        court = new TeaCourt();
        court.lot(0, 0, 0);
        for (int lot : new int[] {-1, 1}) {
            Check.refused("stale lot " + lot, NoSuchElementException.class, () -> court.stale(lot, -1));
        }
        for (int n : new int[] {-1, 100, Integer.MAX_VALUE}) {
            Check.refused("stale by " + n, IllegalArgumentException.class, () -> court.stale(0, n));
        }
    }

    public static void main(String[] args) {
        kindsWithAMiddle();
        kindsWithoutAMiddle();
        agedOnesChangeWithTheDays();
        blendsTasteOfTheirParts();
        tasteIsRefusedInOrder();
        staleOnesDiffer();
        staleBlends();
        staleIsRefused();
        Check.end();
    }
}
