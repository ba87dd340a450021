import java.util.NoSuchElementException;

/** Promises 18 (part) and 19 (blend). */
public final class BlendTest {
    private static TeaCourt court;

    private static void partsAreCollected() {
        court = new TeaCourt();
        court.lot(0, 0, 0);
        for (int i = 1; i <= 4; i++) {
            Check.due("part", i, court.part(0, i == 1 ? 1000 : 1));
            Check.due("parts", i, court.count(3));
        }
        Check.due("a fifth part", -1, court.part(0, 1));
        Check.due("parts", 4, court.count(3));
        Check.refused("a fifth part of no lot", NoSuchElementException.class, () -> court.part(1, 1));
        Check.refused("a fifth part of 0", IllegalArgumentException.class, () -> court.part(0, 0));
        Check.due("acts", 1, court.count(5));
    }

    private static void partsAreRefused() {
        court = new TeaCourt();
        court.lot(0, 0, 0);
        for (int lot : new int[] {-1, 1, Integer.MAX_VALUE}) {
            Check.refused("part of lot " + lot, NoSuchElementException.class, () -> court.part(lot, 0));
        }
        for (int parts : new int[] {0, -1, 1001, Integer.MIN_VALUE}) {
            Check.refused("part of " + parts, IllegalArgumentException.class, () -> court.part(0, parts));
        }
        Check.due("parts", 0, court.count(3));
    }

    private static void blendsAreLots() {
        court = new TeaCourt();
        court.lot(0, 100, 0);
        court.lot(3, 9999, 0);
        court.part(0, 1000);
        court.part(1, 1);
        court.part(0, 998);
        Check.due("blend", 2, court.blend(9999));
        Check.due("parts behind it", 0, court.count(3));
        Check.due("lots", 3, court.count(0));
        int[] due = {5, (100 * 1998 + 9999) / 1999, 9999, -1, 3, 1};
        for (int what = 0; what < 6; what++) {
            Check.due("about(2, " + what + ")", due[what], court.about(2, what));
        }
        Check.refused("no parts any more", IllegalStateException.class, () -> court.blend(0));
        court.part(2, 1);
        court.part(1, 1);
        Check.due("one deeper", 3, court.blend(0));
        Check.due("its depth", 2, court.about(3, 5));
        Check.due("its price, cut", (104 + 9999) / 2, court.about(3, 1));
        court.part(0, 5);
        court.part(3, 1);
        Check.refused("3 deep", IllegalStateException.class, () -> court.blend(0));
        Check.refused("3 deep on no day", IllegalStateException.class, () -> court.blend(-1));
        Check.due("its parts stay", 2, court.count(3));
        Check.due("lots", 4, court.count(0));
        Check.due("the price of the dearest", 9999, dearest());
    }

    private static int dearest() {
        TeaCourt dear = new TeaCourt();
        dear.lot(0, 9999, 0);
        for (int i = 0; i < 4; i++) {
            dear.part(0, 1000);
        }
        return dear.about(dear.blend(0), 1);
    }

    private static void blendsAreRefused() {
        court = new TeaCourt();
        Check.refused("no parts, no day", IllegalStateException.class, () -> court.blend(-1));
        court.lot(0, 1, 0);
        court.part(0, 1);
        for (int day : new int[] {-1, 10000, Integer.MAX_VALUE}) {
            Check.refused("blend on " + day, IllegalArgumentException.class, () -> court.blend(day));
        }
        Check.due("parts behind refused ones", 1, court.count(3));
        Check.due("lots behind refused ones", 1, court.count(0));
        for (int i = 1; i < 40; i++) {
            court.lot(0, 1, 0);
        }
        Check.due("a 41st lot", -1, court.blend(0));
        Check.due("its parts stay", 1, court.count(3));
        Check.refused("a 41st lot on no day", IllegalArgumentException.class, () -> court.blend(10000));
        Check.due("undo a lot", 0, court.undo());
        Check.due("the 40th", 39, court.blend(0));
        Check.refused("no parts ahead of 40 lots", IllegalStateException.class, () -> court.blend(0));
    }

    public static void main(String[] args) {
        partsAreCollected();
        partsAreRefused();
        blendsAreLots();
        blendsAreRefused();
        Check.end();
    }
}
