import java.util.NoSuchElementException;

/** Promises 4 (put), 5 (look) and 6 (card). */
public final class BinsTest {
    private static TeaCourt court;

    private static void held(int bin, int look, int card) {
        Check.due("look(" + bin + ")", look, court.look(bin));
        Check.due("card(" + bin + ")", card, court.card(bin));
    }

    private static void binsHoldWhatIsPut() {
        court = new TeaCourt();
        for (int kind = 0; kind < 5; kind++) {
            court.lot(kind, 0, 0);
        }
        court.part(2, 1);
        court.blend(0);
        for (int lot = 0; lot < 6; lot++) {
            Check.due("put lot " + lot + " into an empty bin", -1, court.put(lot, 1, lot));
            held(lot, lot, 0);
        }
        for (int lot = 0; lot < 6; lot++) {
            Check.due("put a card ahead of which lot " + lot + " lay", lot, court.put(lot, 2, 1000 + lot));
            held(lot, -2, 1000 + lot);
        }
        for (int bin = 0; bin < 6; bin++) {
            Check.due("put nothing where a card lay", 8, court.put(bin, 0, 77));
            held(bin, -3, 0);
            Check.due("put nothing where nothing lay", -1, court.put(bin, 0, 0));
        }
        Check.due("the last bin", -1, court.put(11, 1, 5));
        held(11, 5, 0);
        Check.due("a lot may lie in several bins", -1, court.put(10, 1, 5));
        held(10, 5, 0);
        held(11, 5, 0);
        Check.due("a lot where a lot lay", 5, court.put(10, 1, 3));
        Check.due("a card where a lot lay", 3, court.put(10, 2, 0));
        Check.due("a card where a card lay", 8, court.put(10, 2, Integer.MIN_VALUE));
        held(10, -2, Integer.MIN_VALUE);
        court.put(10, 2, Integer.MAX_VALUE);
        held(10, -2, Integer.MAX_VALUE);
        court.put(10, 2, -2);
        held(10, -2, -2);
        court.put(10, 2, 0);
        held(10, -2, 0);
    }

    private static void wrongOnesAreRefused() {
        court = new TeaCourt();
        for (int bin : new int[] {-1, 12, Integer.MIN_VALUE, Integer.MAX_VALUE}) {
            Check.refused("put into " + bin, IndexOutOfBoundsException.class, () -> court.put(bin, 0, 0));
            Check.refused("put wrongly into " + bin, IndexOutOfBoundsException.class, () -> court.put(bin, 5, 0));
            Check.refused("look at " + bin, IndexOutOfBoundsException.class, () -> court.look(bin));
            Check.refused("card in " + bin, IndexOutOfBoundsException.class, () -> court.card(bin));
        }
        Check.refused("put what -1", IllegalArgumentException.class, () -> court.put(0, -1, 0));
        Check.refused("put what 3", IllegalArgumentException.class, () -> court.put(0, 3, 0));
        Check.refused("put no lot", NoSuchElementException.class, () -> court.put(0, 1, 0));
        court.lot(0, 0, 0);
        Check.refused("put lot 1", NoSuchElementException.class, () -> court.put(0, 1, 1));
        Check.refused("put lot -1", NoSuchElementException.class, () -> court.put(0, 1, -1));
        held(0, -3, 0);
        Check.due("acts behind refused ones", 1, court.count(5));
        Check.due("a card with no lot's number", -1, court.put(0, 2, 99));
        Check.due("nothing with no lot's number", 8, court.put(0, 0, 99));
    }

    public static void main(String[] args) {
        binsHoldWhatIsPut();
        wrongOnesAreRefused();
        Check.end();
    }
}
