import java.util.NoSuchElementException;

/** Promises 12 (hangs), 13 (scale), 14 (agree) and 15 (middle). */
public final class ScaleTest {
    private static TeaCourt court;

    private static void hung(int taster, int mark, int... due) {
        for (int lot = 0; lot < due.length; lot++) {
            Check.due("hangs(" + taster + ", " + mark + ", " + lot + ")", due[lot], court.hangs(taster, mark, lot));
        }
    }

    private static void scaled(int taster, int mark, int lot, String due) {
        Check.printed("scale(" + taster + ", " + mark + ", " + lot + ")", court, due, court.scale(taster, mark, lot));
    }

    private static void notScaled(int taster, int mark, int lot) {
        String before = Check.page(court);
        Check.due("scale(" + taster + ", " + mark + ", " + lot + ")", -1, court.scale(taster, mark, lot));
        Check.same("the page behind it", before, Check.page(court));
    }

    private static void agreed(int taster, String due) {
        Check.printed("agree(" + taster + ")", court, due, court.agree(taster));
    }

    private static void middled(int lot, int mark, String due) {
        Check.printed("middle(" + lot + ", " + mark + ")", court, due, court.middle(lot, mark));
    }

    private static void notMiddled(int lot, int mark) {
        String before = Check.page(court);
        Check.due("middle(" + lot + ", " + mark + ")", -1, court.middle(lot, mark));
        Check.same("the page behind it", before, Check.page(court));
    }

    private static void step(int taster, int from, int to, int many, int row) {
        court.sit(taster);
        court.pour(from, -1, 0);
        court.pour(to, many, row);
    }

    private static void begin(int lots) {
        court = new TeaCourt();
        CupsTest.lots(court, lots);
    }

    private static void aRowOfCups() {
        begin(4);
        court.sit(0);
        court.pour(2, 4, CupsTest.row(50, 50, 50, 50));
        court.pour(0, 4, CupsTest.row(-5, 7, 0, 60));
        court.pour(1, 2, CupsTest.row(3, -60, 9, 9));
        hung(0, 0, 0, 0, 0, -1);
        hung(0, 1, 0, 0, 0, -1);
        hung(0, 2, 0, -1, 0, -1);
        hung(0, 3, 0, -1, 0, -1);
        hung(1, 0, -1, -1, -1, -1);
        scaled(0, 0, 0, "0");
        scaled(0, 0, 1, "3");
        scaled(0, 0, 2, "5");
        scaled(0, 1, 1, "-60");
        scaled(0, 1, 2, "-7");
        scaled(0, 2, 2, "0");
        scaled(0, 3, 2, "-60");
        notScaled(0, 2, 1);
        notScaled(0, 0, 3);
        notScaled(1, 0, 0);
        agreed(0, "0");
        agreed(7, "0");
    }

    private static void aLoopIsSpreadOverItsSteps() {
        begin(3);
        court.sit(4);
        court.pour(0, 0, 0);
        court.pour(1, 1, CupsTest.row(3, 0, 0, 0));
        court.pour(2, 1, CupsTest.row(2, 0, 0, 0));
        step(4, 0, 2, 1, CupsTest.row(6, 0, 0, 0));
        scaled(4, 0, 1, "10/3");
        scaled(4, 0, 2, "17/3");
        agreed(4, "1/3");
        // The other way round, and for another mark: all together.
        step(4, 2, 1, 2, CupsTest.row(-2, -9, 0, 0));
        scaled(4, 0, 1, "17/5");
        scaled(4, 0, 2, "28/5");
        agreed(4, "2/5");
        hung(4, 1, -1, 1, 1);
        scaled(4, 1, 1, "0");
        scaled(4, 1, 2, "9");
        step(4, 1, 2, 2, CupsTest.row(2, -8, 0, 0));
        scaled(4, 1, 2, "1/2");
        Check.due("loops", 3 + 1, court.taster(4, 1));
    }

    private static void severalThatHangTogether() {
        begin(8);
        court.lot(0, 0, 0);
        step(3, 7, 5, 1, CupsTest.row(-4, 0, 0, 0));
        step(3, 2, 3, 1, CupsTest.row(1, 0, 0, 0));
        step(3, 6, 3, 1, CupsTest.row(10, 0, 0, 0));
        hung(3, 0, -1, -1, 2, 2, -1, 5, 2, 5, -1);
        scaled(3, 0, 5, "0");
        scaled(3, 0, 7, "4");
        scaled(3, 0, 2, "0");
        scaled(3, 0, 3, "1");
        scaled(3, 0, 6, "-9");
        Check.due("loops", 0, court.taster(3, 1));
        Check.due("trust", 1, court.taster(3, 0));
        step(3, 7, 6, 1, CupsTest.row(0, 0, 0, 0));
        hung(3, 0, -1, -1, 2, 2, -1, 2, 2, 2, -1);
        scaled(3, 0, 7, "-9");
        scaled(3, 0, 5, "-13");
        notMiddled(2, 0);
        notMiddled(0, 0);
        step(3, 0, 5, 1, CupsTest.row(13, 0, 0, 0));
        hung(3, 0, 0, -1, 0, 0, -1, 0, 0, 0, -1);
        scaled(3, 0, 5, "13");
        scaled(3, 0, 2, "26");
        middled(0, 0, "0");
        middled(2, 0, "26");
        notMiddled(1, 0);
        notMiddled(2, 1);
        agreed(3, "0");
    }

    private static void allTellAlike() {
        begin(6);
        // Each of six to each other one, as far as the squares of their numbers are apart.
        int made = 0;
        for (int from = 0; from < 6; from++) {
            for (int to = from + 1; to < 6 && made < 12; to++) {
                int d = to * to - from * from;
                step(6, from, to, 4, CupsTest.row(d, -d, 0, d % 2));
                made++;
            }
        }
        for (int lot = 0; lot < 6; lot++) {
            scaled(6, 0, lot, String.valueOf(lot * lot));
            scaled(6, 1, lot, lot == 0 ? "0" : "-" + lot * lot);
            scaled(6, 2, lot, "0");
        }
        Check.due("loops of four marks", 4 * (12 - 6 + 1), court.taster(6, 1));
    }

    private static void theMiddleIsWeighedByTrust() {
        begin(3);
        step(0, 0, 1, 1, CupsTest.row(3, 0, 0, 0));
        middled(1, 0, "3");
        step(1, 0, 1, 1, CupsTest.row(3, 0, 0, 0));
        step(1, 1, 0, 1, CupsTest.row(-4, 0, 0, 0));
        scaled(1, 0, 1, "7/2");
        Check.due("trust", 60, court.taster(1, 0));
        middled(1, 0, "213/61");
        step(2, 1, 2, 1, CupsTest.row(60, 0, 0, 0));
        middled(1, 0, "213/61");
        notMiddled(2, 0);
        step(2, 0, 1, 1, CupsTest.row(-60, 0, 0, 0));
        middled(1, 0, "153/62");
        middled(2, 0, "0");
        notMiddled(2, 1);
        Check.due("undo", 3, court.undo());
        middled(1, 0, "213/61");
        // LOT 0 itself: with whom it is in a step, it is at 0.
        middled(0, 0, "0");
        notMiddled(0, 1);
    }

    /** Whichever call comes first behind a cup, it knows of the cup. */
    private static void allKnowTheLatestCup() {
        for (int call = 0; call < 6; call++) {
            begin(2);
            for (int i = 1; i < 4; i++) {
                step(5, 0, 1, 1, CupsTest.row(i * i, 0, 0, 0));
                // 1; 1 and 4; 1, 4 and 9.
                String middle = i == 1 ? "1" : i == 2 ? "5/2" : "14/3";
                if (call == 0) {
                    agreed(5, i == 1 ? "0" : i == 2 ? "9/2" : "98/3");
                } else if (call == 1) {
                    scaled(5, 0, 1, middle);
                } else if (call == 2) {
                    middled(1, 0, middle);
                } else if (call == 3) {
                    Check.printed("taste", court, middle, court.taste(1, 0, 0));
                } else if (call == 4) {
                    Check.due("trust", i == 1 ? 1 : i == 2 ? 12 : 1, court.taster(5, 0));
                } else {
                    Check.due("hangs", 0, court.hangs(5, 0, 1));
                }
            }
        }
    }

    private static void wrongOnesAreRefused() {
        begin(1);
        for (int taster : new int[] {-1, 8, Integer.MAX_VALUE}) {
            Check.refused("hangs of " + taster, IndexOutOfBoundsException.class, () -> court.hangs(taster, 0, 9));
            Check.refused("scale of " + taster, IndexOutOfBoundsException.class, () -> court.scale(taster, 0, 9));
            Check.refused("agree of " + taster, IndexOutOfBoundsException.class, () -> court.agree(taster));
        }
        for (int mark : new int[] {-1, 4, Integer.MIN_VALUE}) {
            Check.refused("hangs for " + mark, IndexOutOfBoundsException.class, () -> court.hangs(0, mark, 9));
            Check.refused("scale for " + mark, IndexOutOfBoundsException.class, () -> court.scale(0, mark, 9));
            Check.refused("middle for " + mark, IndexOutOfBoundsException.class, () -> court.middle(0, mark));
            Check.refused("middle of no lot for " + mark, NoSuchElementException.class, () -> court.middle(1, mark));
        }
        for (int lot : new int[] {-1, 1, 40, Integer.MAX_VALUE}) {
            Check.refused("hangs, lot " + lot, NoSuchElementException.class, () -> court.hangs(0, 0, lot));
            Check.refused("scale, lot " + lot, NoSuchElementException.class, () -> court.scale(7, 3, lot));
            Check.refused("middle of lot " + lot, NoSuchElementException.class, () -> court.middle(lot, 0));
        }
    }

    public static void main(String[] args) {
        aRowOfCups();
        aLoopIsSpreadOverItsSteps();
        severalThatHangTogether();
        allTellAlike();
        theMiddleIsWeighedByTrust();
        allKnowTheLatestCup();
        wrongOnesAreRefused();
        Check.end();
    }
}
