/** Promise 24 (octet), how fractions are printed, and how long they may become. */
public final class PageTest {
    private static TeaCourt court;
    private static int longest = 0;

    private static void bytesAreRead() {
        court = new TeaCourt();
        for (int k : new int[] {Integer.MIN_VALUE, -1, 0, 1, Integer.MAX_VALUE}) {
            Check.due("octet(" + k + ") of an empty page", -1, court.octet(k));
        }
        court.lot(4, 0, 0);
        Check.due("taste", 5, court.taste(0, 0, 330));
        String due = "-11/8";
        for (int k = -2; k < 8; k++) {
            Check.due("octet(" + k + ")", k < 0 || k > 4 ? -1 : due.charAt(k), court.octet(k));
        }
        Check.due("taste", 1, court.taste(0, 1, 330));
        Check.due("the page holds the latest alone", '1', court.octet(0));
        Check.due("nothing of what was longer", -1, court.octet(1));
        Check.due("nothing of what was longer", 1, court.count(4));
        Check.due("octet(max)", -1, court.octet(Integer.MAX_VALUE));
        Check.due("octet(min)", -1, court.octet(Integer.MIN_VALUE));
        Check.printed("0", court, "0", court.taste(0, 3, 0));
        Check.printed("0 behind what was not", court, "0", court.taste(0, 2, 29));
        Check.printed("a fraction below 1", court, "1/4", court.taste(0, 2, 30));
        Check.printed("in lowest terms", court, "1/2", court.taste(0, 2, 60));
        Check.printed("a whole one", court, "3", court.taste(0, 2, 360));
    }

    /** Blends of blends of 16 lots that eight tasters tell of: the longest fractions there are. */
    private static void longFractions(long seed) {
        court = new TeaCourt();
        Oracle oracle = new Oracle();
        int[] sizes = {997, 991, 983, 977, 971, 967, 953, 947, 941, 937, 929, 919, 911, 907, 887, 883, 881};
        for (int i = 0; i < 17; i++) {
            court.lot(i % 5, 9999, 0);
            oracle.lot(i % 5, 9999, 0);
        }
        long n = seed;
        for (int taster = 0; taster < 8; taster++) {
            for (int cup = 0; cup < 24; cup++) {
                if (cup % 10 == 0) {
                    court.sit(taster);
                    oracle.sit(taster);
                }
                n = n * 6364136223846793005L + 1442695040888963407L;
                int place = cup < 6 ? cup : (int) ((n >>> 40) % 6);
                int lot = place == 0 ? 0 : 1 + (taster * 3 + place * (1 + taster / 4)) % 16;
                int off = taster % 4 < 3 ? 0 : (int) ((n >>> 50) % 2);
                int row = CupsTest.row(60 - off, off - 60, (int) ((n >>> 33) % 121) - 60, off);
                Check.due("cup", oracle.pour(lot, 4, row), court.pour(lot, 4, row));
            }
        }
        for (int blend = 0; blend < 4; blend++) {
            for (int part = 0; part < 4; part++) {
                court.part(1 + blend * 4 + part, sizes[blend * 4 + part]);
                oracle.part(1 + blend * 4 + part, sizes[blend * 4 + part]);
            }
            Check.due("blend", oracle.blend(0), court.blend(0));
        }
        for (int part = 0; part < 4; part++) {
            court.part(17 + part, 1000 - part);
            oracle.part(17 + part, 1000 - part);
        }
        Check.due("blend", oracle.blend(0), court.blend(0));
        int mark = (int) (seed % 4);
        for (int lot : new int[] {1 + (int) seed, 17 + mark, 21}) {
            int length = oracle.taste(lot, mark, 100);
            StringBuilder due = new StringBuilder();
            for (int k = 0; k < length; k++) {
                due.append((char) oracle.octet(k));
            }
            Check.printed("taste of " + lot, court, due.toString(), court.taste(lot, mark, 100));
            longest = Math.max(longest, length);
        }
        court.weigh(21, 0x7f800000);
        oracle.weigh(21, 0x7f800000);
        court.put(0, 1, 21);
        oracle.put(0, 1, 21);
        for (int low = -300; low < 300; low += 150) {
            court.wish(mark, low, low + 150);
            oracle.wish(mark, low, low + 150);
            Check.due("least", oracle.least(500, 1), court.least(500, 1));
            court.undo();
            oracle.undo();
        }
    }

    public static void main(String[] args) {
        bytesAreRead();
        for (int seed = 0; seed < 8; seed++) {
            longFractions(seed);
        }
        Check.same("there were long ones (" + longest + ")", true, longest > 60);
        Check.end();
    }
}
