import java.util.NoSuchElementException;

/** Promise 23 (undo). */
public final class UndoTest {
    private static TeaCourt court;

    private static void undone(int due) {
        int acts = court.count(5);
        Check.due("undo()", due, court.undo());
        Check.due("acts behind undo()", Math.max(0, acts - 1), court.count(5));
    }

    private static void eachActIsTakenBack() {
        court = new TeaCourt();
        court.lot(0, 1, 2);
        court.lot(3, 4, 5);
        undone(0);
        Check.due("lots", 1, court.count(0));
        Check.refused("the lot", NoSuchElementException.class, () -> court.about(1, 0));
        Check.due("another in its place", 1, court.lot(2, 9, 9));
        Check.due("its kind", 2, court.about(1, 0));

        court.weigh(1, Float.floatToIntBits(3f));
        court.weigh(1, Float.floatToIntBits(4f));
        court.weigh(1, 0x7fc00000);
        undone(1);
        Check.due("kilos", 40, court.about(1, 3));
        undone(1);
        Check.due("kilos", 30, court.about(1, 3));
        undone(1);
        Check.due("kilos", -1, court.about(1, 3));

        court.put(3, 1, 1);
        court.put(3, 2, 77);
        court.put(3, 0, 0);
        court.put(3, 1, 0);
        undone(2);
        Check.due("look", -3, court.look(3));
        undone(2);
        Check.due("look", -2, court.look(3));
        Check.due("card", 77, court.card(3));
        undone(2);
        Check.due("look", 1, court.look(3));
        Check.due("card", 0, court.card(3));
        undone(2);
        Check.due("look", -3, court.look(3));
        undone(0);
        undone(0);
        undone(-1);
        undone(-1);
        Check.due("lots", 0, court.count(0));
    }

    private static void aWishIsTakenBack() {
        court = new TeaCourt();
        court.lot(2, 5, 0);
        court.weigh(0, Float.floatToIntBits(9f));
        court.put(0, 1, 0);
        court.wish(1, 10, 10);
        court.wish(1, 11, 12);
        Check.due("least", -1, court.least(0, 1));
        undone(6);
        Check.due("least", 1, court.least(0, 1));
        court.wish(1, 1, 0);
        court.wish(1, 0, 9);
        undone(6);
        Check.due("least", 1, court.least(0, 1));
        undone(6);
        undone(6);
        Check.due("least", 1, court.least(0, 1));
        undone(2);
        Check.due("least", -1, court.least(0, 1));
    }

    private static void cupsAndSittingsAreTakenBack() {
        court = new TeaCourt();
        CupsTest.lots(court, 3);
        court.sit(2);
        court.pour(0, -1, 0);
        court.pour(1, 1, CupsTest.row(5, 0, 0, 0));
        Check.printed("scale", court, "5", court.scale(2, 0, 1));
        court.sit(2);
        court.pour(0, -1, 0);
        court.pour(1, 1, CupsTest.row(7, 0, 0, 0));
        Check.printed("scale", court, "6", court.scale(2, 0, 1));
        undone(3);
        Check.printed("scale", court, "5", court.scale(2, 0, 1));
        Check.due("cups", 3, court.count(2));
        Check.due("cups of the taster", 3, court.taster(2, 2));
        court.sit(4);
        undone(4);
        Check.due("the sitting ahead is the latest again", 1, court.pour(1, 1, CupsTest.row(9, 0, 0, 0)));
        Check.printed("scale", court, "7", court.scale(2, 0, 1));
        undone(3);
        undone(3);
        undone(4);
        Check.due("sittings", 1, court.count(1));
        Check.due("the sitting ahead goes on", 2, court.pour(2, 1, CupsTest.row(1, 0, 0, 0)));
        Check.printed("scale", court, "6", court.scale(2, 0, 2));
        Check.printed("the page stays", court, "6", court.count(4));
        undone(3);
        undone(3);
        Check.printed("the page stays", court, "6", court.count(4));
        Check.due("scale", -1, court.scale(2, 0, 1));
        Check.due("hangs", -1, court.hangs(2, 0, 1));
        undone(3);
        undone(4);
        Check.refused("no sitting", IllegalStateException.class, () -> court.pour(0, 0, 0));
        Check.due("cups", 0, court.count(2));
        undone(0);
    }

    private static void roomIsThereAgain() {
        court = new TeaCourt();
        CupsTest.lots(court, 8);
        court.sit(0);
        for (int i = 0; i < 6; i++) {
            court.pour(i, 0, 0);
        }
        Check.refused("a seventh lot", UnsupportedOperationException.class, () -> court.pour(6, 0, 0));
        undone(3);
        Check.due("a sixth again", 5, court.pour(6, 0, 0));
        Check.refused("a seventh lot", UnsupportedOperationException.class, () -> court.pour(5, 0, 0));
        for (int i = 6; i < 10; i++) {
            court.pour(0, 0, 0);
        }
        Check.refused("an 11th cup", UnsupportedOperationException.class, () -> court.pour(0, 0, 0));
        undone(3);
        Check.due("a tenth again", 9, court.pour(6, 0, 0));
        Check.due("lots named by two cups stay", 8, court.count(0));
        undone(3);
        Check.refused("a seventh lot still", UnsupportedOperationException.class, () -> court.pour(7, 0, 0));
        for (int i = 0; i < 4; i++) {
            court.pour(0, 0, 0);
            court.sit(0);
            court.pour(1, 0, 0);
            court.pour(2, 0, 0);
        }
        while (court.count(2) < 24) {
            court.pour(3, 0, 0);
        }
        Check.refused("a 25th cup", UnsupportedOperationException.class, () -> court.pour(0, 0, 0));
        undone(3);
        court.pour(0, 0, 0);
        Check.due("24 cups", 24, court.taster(0, 2));
    }

    private static void blendsAndPartsAreTakenBack() {
        court = new TeaCourt();
        CupsTest.lots(court, 2);
        court.part(0, 1);
        court.part(1, 1);
        court.blend(7);
        court.part(2, 5);
        court.part(0, 6);
        court.part(2, 7);
        court.part(1, 8);
        undone(5);
        Check.due("lots", 2, court.count(0));
        Check.due("parts of others stay", 2, court.count(3));
        court.lot(3, 50, 0);
        // What takes a blend's place is no blend.
        Check.due("no parts", 0, court.about(2, 4));
        Check.due("no depth", 0, court.about(2, 5));
        Check.due("no kilos", -1, court.about(2, 3));
        Check.printed("taste", court, "3", court.taste(2, 3, 0));
        Check.due("stale", -1, court.stale(2, 0));
        court.part(2, 2);
        Check.due("a blend of what stayed", 3, court.blend(8));
        Check.due("its depth", 1, court.about(3, 5));
        Check.due("its price, of 6, 8 and 2", (6 + 8 + 2 * 50) / 16, court.about(3, 1));
        Check.due("its parts", 3, court.about(3, 4));
        undone(5);
        court.part(2, 3);
        court.part(1, 1);
        undone(0);
        Check.due("parts", 1, court.count(3));
        undone(0);
        Check.due("parts", 0, court.count(3));
        Check.due("part() is no act", 1, court.count(5));
    }

    private static void twelveAreKept() {
        court = new TeaCourt();
        for (int i = 0; i < 20; i++) {
            court.put(0, 2, i);
            Check.due("acts", Math.min(12, i + 1), court.count(5));
        }
        for (int i = 18; i > 7; i--) {
            undone(2);
            Check.due("card", i, court.card(0));
        }
        for (int i = 0; i < 5; i++) {
            court.put(0, 2, 100 + i);
        }
        for (int i = 103; i >= 100; i--) {
            undone(2);
            Check.due("card", i, court.card(0));
        }
        undone(2);
        Check.due("card", 8, court.card(0));
        undone(2);
        Check.due("card", 7, court.card(0));
        undone(-1);
        Check.due("card", 7, court.card(0));
        for (int i = 0; i < 30; i++) {
            court.put(1, 2, i);
            court.undo();
        }
        Check.due("nothing is there", -3, court.look(1));
        undone(-1);
    }

    private static void whatMadeNothingIsNoAct() {
        court = new TeaCourt();
        for (int i = 0; i < 39; i++) {
            court.lot(0, 1, 0);
        }
        for (int i = 0; i < 60; i++) {
            court.sit(0);
        }
        court.lot(0, 1, 0);
        court.part(0, 1);
        Check.due("no lot", -1, court.lot(0, 0, 0));
        Check.due("no sitting", -1, court.sit(0));
        Check.due("no blend", -1, court.blend(0));
        Check.refused("no weight", IllegalArgumentException.class, () -> court.weigh(0, -2000000000));
        Check.refused("no bin", IndexOutOfBoundsException.class, () -> court.put(12, 0, 0));
        Check.refused("no cup", IllegalArgumentException.class, () -> court.pour(0, 9, 0));
        court.taste(0, 0, 0);
        court.least(0, 1);
        Check.due("acts", 12, court.count(5));
        undone(0);
        undone(4);
        // What changes nothing was done all the same.
        court.put(0, 0, 0);
        court.weigh(0, 0x7fc00000);
        court.wish(0, 1, 0);
        undone(6);
        undone(1);
        undone(2);
        undone(4);
    }

    public static void main(String[] args) {
        eachActIsTakenBack();
        aWishIsTakenBack();
        cupsAndSittingsAreTakenBack();
        roomIsThereAgain();
        blendsAndPartsAreTakenBack();
        twelveAreKept();
        whatMadeNothingIsNoAct();
        Check.end();
    }
}
