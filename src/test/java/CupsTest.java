import java.util.NoSuchElementException;

/** Promises 8 (sit), 9 (pour), 10 (count) and 11 (taster). */
public final class CupsTest {
    private static TeaCourt court;

    static int row(int a, int b, int c, int d) {
        return (a & 255) << 24 | (b & 255) << 16 | (c & 255) << 8 | d & 255;
    }

    static void lots(TeaCourt court, int many) {
        for (int i = 0; i < many; i++) {
            court.lot(0, 1, 0);
        }
    }

    private static void told(int taster, int trust, int loops, int cups, int steps) {
        Check.due("trust of " + taster, trust, court.taster(taster, 0));
        Check.due("loops of " + taster, loops, court.taster(taster, 1));
        Check.due("cups of " + taster, cups, court.taster(taster, 2));
        Check.due("steps of " + taster, steps, court.taster(taster, 3));
    }

    private static void sittingsAreNumberedUpToSixty() {
        court = new TeaCourt();
        for (int i = 0; i < 60; i++) {
            Check.due("sitting", i, court.sit(i % 8));
        }
        Check.due("a 61st sitting", -1, court.sit(0));
        Check.due("sittings", 60, court.count(1));
        Check.refused("a 61st sitting of taster 8", IndexOutOfBoundsException.class, () -> court.sit(8));
        Check.due("acts", 12, court.count(5));
        court.lot(0, 0, 0);
        Check.due("the 60th goes on", 0, court.pour(0, -1, 0));
        Check.due("its taster has the cup", 1, court.taster(59 % 8, 2));
        for (int taster : new int[] {-1, 8, Integer.MIN_VALUE, Integer.MAX_VALUE}) {
            Check.refused("sit(" + taster + ")", IndexOutOfBoundsException.class, () -> court.sit(taster));
        }
    }

    private static void cupsAreNumberedInTheirSitting() {
        court = new TeaCourt();
        lots(court, 3);
        court.sit(2);
        for (int i = 0; i < 10; i++) {
            Check.due("cup", i, court.pour(i % 3, 4, 0));
        }
        Check.refused("an 11th cup", UnsupportedOperationException.class, () -> court.pour(0, 4, 0));
        Check.due("cups", 10, court.count(2));
        court.sit(3);
        Check.due("first cup of the next", 0, court.pour(0, -1, 0));
        court.sit(2);
        for (int i = 0; i < 10; i++) {
            Check.due("cup", i, court.pour(i % 3, 0, 0));
        }
        court.sit(2);
        for (int i = 0; i < 4; i++) {
            Check.due("cup", i, court.pour(i % 3, 4, 0));
        }
        Check.refused("a 25th cup of one", UnsupportedOperationException.class, () -> court.pour(0, 4, 0));
        Check.due("cups", 25, court.count(2));
        told(2, 60, 48 - 3 * 4 + 4, 24, 9 * 4 + 3 * 4);
        court.sit(3);
        Check.due("another has room", 0, court.pour(0, 4, 0));
        Check.due("cups of the other", 2, court.taster(3, 2));
    }

    private static void sixLotsOfATaster() {
        court = new TeaCourt();
        lots(court, 8);
        court.sit(0);
        for (int lot = 7; lot > 1; lot--) {
            Check.due("cup", 7 - lot, court.pour(lot, lot == 5 ? -1 : 2, 0));
        }
        Check.refused("a seventh lot", UnsupportedOperationException.class, () -> court.pour(1, 4, 0));
        Check.due("a lot again", 6, court.pour(5, 4, 0));
        court.sit(0);
        Check.refused("a seventh lot later", UnsupportedOperationException.class, () -> court.pour(0, 4, 0));
        Check.due("a lot again later", 0, court.pour(2, 4, 0));
        Check.due("undo the cup", 3, court.undo());
        court.sit(1);
        Check.due("another taster's", 0, court.pour(0, 4, 0));
        Check.due("cups in all", 8, court.count(2));
    }

    private static void pouringIsRefusedInOrder() {
        court = new TeaCourt();
        Check.refused("no sitting, no lot", IllegalStateException.class, () -> court.pour(5, 9, -1));
        lots(court, 2);
        court.part(0, 1);
        court.blend(0);
        Check.refused("no sitting", IllegalStateException.class, () -> court.pour(0, 4, 0));
        court.sit(0);
        Check.refused("no such lot", NoSuchElementException.class, () -> court.pour(3, 9, 0));
        Check.refused("lot -1", NoSuchElementException.class, () -> court.pour(-1, 4, 0));
        Check.refused("a blend", NoSuchElementException.class, () -> court.pour(2, 4, 0));
        Check.refused("many 5", IllegalArgumentException.class, () -> court.pour(0, 5, 0));
        Check.refused("many -2", IllegalArgumentException.class, () -> court.pour(0, -2, 0));
        for (int place = 0; place < 4; place++) {
            for (int step : new int[] {-128, -61, 61, 127}) {
                int steps = (step & 255) << (24 - 8 * place);
                for (int many = -1; many <= 4; many++) {
                    int upTo = many;
                    String what = "pour(0, " + many + ", " + steps + ")";
                    if (many > place) {
                        Check.refused(what, IllegalArgumentException.class, () -> court.pour(0, upTo, steps));
                    } else {
                        Check.due(what, 0, court.pour(0, many, steps));
                        Check.due("undo() behind it", 3, court.undo());
                    }
                }
            }
        }
        Check.due("cups behind refused ones", 0, court.count(2));
        Check.due("60 and -60", 0, court.pour(0, 4, row(60, -60, 60, -60)));
        for (int i = 1; i < 10; i++) {
            court.pour(0, -1, 0);
        }
        Check.refused("wrong ahead of full", IllegalArgumentException.class, () -> court.pour(0, 5, 0));
        Check.refused("no lot ahead of full", NoSuchElementException.class, () -> court.pour(9, 4, 0));
        Check.refused("full", UnsupportedOperationException.class, () -> court.pour(0, 4, 0));
    }

    private static void allIsCounted() {
        court = new TeaCourt();
        lots(court, 3);
        court.sit(1);
        court.sit(2);
        court.pour(0, 0, 0);
        court.pour(1, 1, row(12, 0, 0, 0));
        court.pour(1, 1, row(-1, 0, 0, 0));
        court.pour(2, -1, 0);
        court.part(0, 1);
        court.part(0, 2);
        Check.due("bytes of an empty page", 0, court.count(4));
        court.scale(2, 0, 1);
        int[] due = {3, 2, 4, 2, 2, 9};
        for (int what = 0; what < 6; what++) {
            Check.due("count(" + what + ")", due[what], court.count(what));
        }
        for (int what : new int[] {-1, 6, Integer.MIN_VALUE, Integer.MAX_VALUE}) {
            Check.due("count(" + what + ")", -1, court.count(what));
        }
    }

    private static void stepsAreReadUpToTheirEnd() {
        court = new TeaCourt();
        lots(court, 4);
        court.sit(0);
        court.pour(0, 4, row(9, 9, 9, 9));
        told(0, 1, 0, 1, 0);
        court.pour(1, 3, row(1, 1, 1, 0));
        told(0, 1, 0, 2, 3);
        court.pour(2, 4, row(1, 1, 1, 1));
        told(0, 1, 0, 3, 6);
        court.pour(3, -1, 0);
        told(0, 1, 0, 4, 6);
        court.pour(0, 4, row(1, 1, 1, 1));
        told(0, 1, 0, 5, 6);
        court.sit(0);
        court.pour(3, -1, 0);
        court.pour(0, 0, 0);
        court.pour(1, 4, row(1, 1, 1, 1));
        told(0, 1, 0, 8, 6);
        court.sit(1);
        told(0, 1, 0, 8, 6);
        told(1, 1, 0, 0, 0);
        court.sit(0);
        court.pour(1, 0, 0);
        court.pour(0, 4, 0);
        // Three marks with a loop and half a square each: 60 by 2.
        told(0, 30, 3, 10, 10);
    }

    private static void trustFollowsFromLoopsAndAgree() {
        // Two steps from 0 to 1 for a mark, d apart: AGREE is d * d / 2, and there is one loop.
        int[][] due = {{0, 60}, {1, 60}, {2, 20}, {3, 12}, {4, 6}, {5, 4}, {7, 2}, {8, 1}, {10, 1}, {11, 1}, {12, 1}};
        for (int[] d : due) {
            court = new TeaCourt();
            lots(court, 2);
            for (int i = 0; i < 2; i++) {
                court.sit(5);
                court.pour(0, 4, 0);
                court.pour(1, 1, row(i * d[0], 0, 0, 0));
            }
            told(5, d[1], 1, 4, 2);
        }
        // Halves of two marks together are 1: cut only once they are together.
        court = new TeaCourt();
        lots(court, 2);
        for (int i = 0; i < 2; i++) {
            court.sit(5);
            court.pour(1, -1, 0);
            court.pour(0, 2, row(i, -i, 0, 0));
        }
        told(5, 30, 2, 4, 4);
    }

    private static void aStepFromALotToItself() {
        court = new TeaCourt();
        lots(court, 2);
        court.sit(7);
        court.pour(1, 0, 0);
        court.pour(1, 1, row(5, 0, 0, 0));
        told(7, 2, 1, 2, 1);
        Check.due("it hangs together with itself", 1, court.hangs(7, 0, 1));
        Check.printed("its scale", court, "0", court.scale(7, 0, 1));
        Check.printed("agree", court, "25", court.agree(7));
    }

    private static void tasterIsRefused() {
        court = new TeaCourt();
        for (int taster : new int[] {-1, 8, Integer.MIN_VALUE, Integer.MAX_VALUE}) {
            Check.refused("taster(" + taster + ", 0)", IndexOutOfBoundsException.class, () -> court.taster(taster, 0));
            Check.refused("taster(" + taster + ", 9)", IndexOutOfBoundsException.class, () -> court.taster(taster, 9));
        }
        Check.refused("taster(0, -1)", IllegalArgumentException.class, () -> court.taster(0, -1));
        Check.refused("taster(7, 4)", IllegalArgumentException.class, () -> court.taster(7, 4));
    }

    public static void main(String[] args) {
        sittingsAreNumberedUpToSixty();
        cupsAreNumberedInTheirSitting();
        sixLotsOfATaster();
        pouringIsRefusedInOrder();
        allIsCounted();
        stepsAreReadUpToTheirEnd();
        trustFollowsFromLoopsAndAgree();
        aStepFromALotToItself();
        tasterIsRefused();
        Check.end();
    }
}
