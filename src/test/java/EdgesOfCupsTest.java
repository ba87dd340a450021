import java.util.NoSuchElementException;
import java.util.function.Consumer;

/** Each sentence that names a boundary case, of promises 8 to 11 and of the terms that they use. */
public final class EdgesOfCupsTest {
    private static final int LEAST_INT = Integer.MIN_VALUE;
    private static final int GREATEST_INT = Integer.MAX_VALUE;
    private static final Consumer<TeaCourt> FULL = Still::everything;
    private static TeaCourt court;

    private static void sixtySittings(TeaCourt fresh) {
        Still.everything(fresh);
        for (int i = 3; i < 60; i++) {
            fresh.sit(i % 8);
        }
        fresh.pour(3, 4, 0);
    }

    private static void tenCups(TeaCourt fresh) {
        Still.everything(fresh);
        for (int i = 1; i < 10; i++) {
            fresh.pour(i % 3, 1, 0);
        }
    }

    private static void twentyFourCups(TeaCourt fresh) {
        Still.everything(fresh);
        fresh.sit(1);
        // There are four ahead.
        for (int i = 4; i < 24; i++) {
            if (i % 7 == 0) {
                fresh.sit(i == 14 ? 2 : 1);
                fresh.sit(1);
            }
            fresh.pour(i % 3, 1, i << 24);
        }
    }

    private static void sixLots(TeaCourt fresh) {
        Still.everything(fresh);
        fresh.lot(0, 0, 0);
        fresh.lot(1, 0, 0);
        fresh.sit(1);
        for (int lot : new int[] {3, 4, 6}) {
            fresh.pour(lot, 2, 0);
        }
    }

    private static void tasters() {
        Check.sentence("TASTERS 0 to 7.");
        court = Still.leaves(1);
        for (int taster = 0; taster < 8; taster++) {
            Check.due("sit(" + taster + ")", taster, court.sit(taster));
            Check.due("its first cup", 0, court.pour(0, -1, 0));
        }
        for (int taster = 0; taster < 8; taster++) {
            Check.due("cups of " + taster, 1, court.taster(taster, 2));
        }
    }

    private static void noSuchTasterSits() {
        Check.sentence("NONE, and none begins, if there are 60. IndexOutOfBoundsException: no such TASTER.");
        for (int taster : new int[] {-1, 8, LEAST_INT, GREATEST_INT}) {
            Still.refused("sit(" + taster + ")", IndexOutOfBoundsException.class, FULL, c -> c.sit(taster));
        }
    }

    private static void atMostSixty() {
        Check.sentence("At most 60 SITTINGS");
        court = Still.leaves(1);
        for (int i = 0; i < 60; i++) {
            Check.due("sittings", i, court.count(1));
            Check.due("sitting " + i, i, court.sit(i % 8));
        }
        Check.due("a 61st", -1, court.sit(7));
        Check.due("sittings", 60, court.count(1));
        Check.due("the 60th goes on", 0, court.pour(0, -1, 0));
        Check.due("its taster is 3", 1, court.taster(3, 2));
        Check.due("undo()", 3, court.undo());
        Check.due("undo()", 4, court.undo());
        Check.due("the 60th again", 59, court.sit(0));
        Check.due("a 61st again", -1, court.sit(0));
    }

    private static void noneBeginsAtSixty() {
        Check.sentence("its number; NONE, and none begins, if there are 60.");
        for (int taster = 0; taster < 8; taster++) {
            int who = taster;
            Still.answers("a 61st, of " + taster, -1, EdgesOfCupsTest::sixtySittings, c -> c.sit(who));
        }
    }

    private static void theOneAheadIsOver() {
        Check.sentence("A SITTING of a TASTER begins (the one ahead is over): its number");
        court = Still.leaves(3);
        court.sit(4);
        court.pour(0, 4, 0);
        court.pour(1, 4, 0);
        court.sit(4);
        Check.due("the first cup of the next", 0, court.pour(2, 4, 0));
        Check.due("no step leads over to it", 4, court.taster(4, 3));
        court.sit(5);
        Check.due("a sitting without a cup is one, too", 3, court.sit(5));
        Check.due("sittings", 4, court.count(1));
    }

    private static void oneToTenCups() {
        Check.sentence("A SITTING is a row of one to ten cups of one TASTER");
        court = Still.leaves(2);
        court.sit(0);
        for (int i = 0; i < 10; i++) {
            Check.due("cup " + i, i, court.pour(i % 2, 4, 0));
        }
        Check.refused("an 11th", UnsupportedOperationException.class, () -> court.pour(0, 4, 0));
        Check.due("steps", 36, court.taster(0, 3));
        court.sit(0);
        for (int i = 0; i < 10; i++) {
            Check.due("cup " + i + " of the next", i, court.pour(i % 2, -1, 0));
        }
        Check.refused("an 11th of the next", UnsupportedOperationException.class, () -> court.pour(0, -1, 0));
        Check.due("undo()", 3, court.undo());
        Check.due("a tenth again", 9, court.pour(1, 4, 0));
    }

    private static void anEleventhCup() {
        Check.sentence("UnsupportedOperationException: it would be an 11th cup, a 25th of the TASTER, or a seventh LOT"
                + " of this TASTER.");
        for (int many = -1; many <= 4; many++) {
            int upTo = many;
            Still.refused("an 11th, many " + many, UnsupportedOperationException.class, EdgesOfCupsTest::tenCups,
                    c -> c.pour(0, upTo, 0));
        }
    }

    private static void atMostTwentyFourCups() {
        Check.sentence("of one TASTER at most 24 cups, of at most six LOTS.");
        court = Still.leaves(2);
        for (int i = 0; i < 24; i++) {
            if (i % 8 == 0) {
                court.sit(6);
            }
            Check.due("cup " + i, i % 8, court.pour(i % 2, 4, 0));
            Check.due("cups so far", i + 1, court.taster(6, 2));
        }
        Check.refused("a 25th", UnsupportedOperationException.class, () -> court.pour(0, 4, 0));
        court.sit(6);
        Check.refused("a 25th in a sitting of its own", UnsupportedOperationException.class, () -> court.pour(0, 4, 0));
        Check.due("steps", 4 * 21, court.taster(6, 3));
        court.sit(5);
        Check.due("another has room", 0, court.pour(0, 4, 0));
        Check.due("undo()", 3, court.undo());
        Check.due("undo()", 4, court.undo());
        Check.due("undo()", 4, court.undo());
        Check.due("undo()", 3, court.undo());
        Check.due("the 24th again", 7, court.pour(1, 4, 0));
    }

    private static void aTwentyFifthCup() {
        Check.sentence("UnsupportedOperationException: it would be an 11th cup, a 25th of the TASTER, or a seventh LOT"
                + " of this TASTER.");
        for (int lot = 0; lot < 5; lot++) {
            int of = lot;
            Still.refused("a 25th, of lot " + lot, UnsupportedOperationException.class,
                    EdgesOfCupsTest::twentyFourCups, c -> c.pour(of, 4, 0));
        }
    }

    private static void atMostSixLots() {
        Check.sentence("of one TASTER at most 24 cups, of at most six LOTS.");
        court = Still.leaves(40);
        court.sit(7);
        int[] lots = {39, 0, 17, 38, 1, 20};
        for (int i = 0; i < 6; i++) {
            Check.due("lot " + lots[i], i, court.pour(lots[i], -1, 0));
        }
        for (int lot : new int[] {2, 16, 18, 37}) {
            Check.refused("a seventh, " + lot, UnsupportedOperationException.class, () -> court.pour(lot, -1, 0));
        }
        court.sit(7);
        for (int i = 0; i < 6; i++) {
            Check.due("lot " + lots[i] + " again", i, court.pour(lots[i], -1, 0));
        }
        Check.refused("a seventh later", UnsupportedOperationException.class, () -> court.pour(19, -1, 0));
        court.sit(0);
        Check.due("a seventh of all, but another's first", 0, court.pour(19, -1, 0));
    }

    private static void aSeventhLot() {
        Check.sentence("UnsupportedOperationException: it would be an 11th cup, a 25th of the TASTER, or a seventh LOT"
                + " of this TASTER.");
        Still.refused("a seventh lot", UnsupportedOperationException.class, EdgesOfCupsTest::sixLots,
                c -> c.pour(7, 4, 0));
        court = new TeaCourt();
        sixLots(court);
        Check.due("the sixth once more", 3, court.pour(6, 4, 0));
        Check.due("undo()", 3, court.undo());
        Check.due("undo()", 3, court.undo());
        Check.due("another as the sixth", 2, court.pour(7, 4, 0));
        Check.refused("what was the sixth", UnsupportedOperationException.class, () -> court.pour(6, 4, 0));
    }

    private static void noSittingToPourIn() {
        Check.sentence("IllegalStateException: there is no SITTING; NoSuchElementException: no such LOT, or a BLEND;");
        Consumer<TeaCourt> onlyLots = c -> {
            c.lot(0, 1, 1);
            c.part(0, 1);
            c.blend(0);
        };
        Still.refused("pour(0, 4, 0)", IllegalStateException.class, onlyLots, c -> c.pour(0, 4, 0));
        Still.refused("pour(0, -1, 0)", IllegalStateException.class, onlyLots, c -> c.pour(0, -1, 0));
        Consumer<TeaCourt> undone = c -> {
            c.lot(0, 1, 1);
            c.sit(3);
            c.pour(0, 1, 0);
            c.undo();
            c.undo();
        };
        Still.refused("pour(0, 4, 0) behind undo()", IllegalStateException.class, undone, c -> c.pour(0, 4, 0));
    }

    private static void noLotToPour() {
        Check.sentence("each of a LOT (no BLEND), with a ROW");
        Still.refused("pour a blend", NoSuchElementException.class, FULL, c -> c.pour(5, 0, 0));
        Check.sentence("NoSuchElementException: no such LOT, or a BLEND;");
        for (int lot : new int[] {-1, 6, 39, 40, LEAST_INT, GREATEST_INT}) {
            Still.refused("pour lot " + lot, NoSuchElementException.class, FULL, c -> c.pour(lot, 4, 0));
        }
        Still.refused("pour a blend", NoSuchElementException.class, FULL, c -> c.pour(5, 4, 0));
        Still.refused("pour a blend, no row", NoSuchElementException.class, FULL, c -> c.pour(5, -1, 0));
        court = new TeaCourt();
        Still.everything(court);
        for (int lot = 0; lot < 5; lot++) {
            Check.due("pour kind " + lot, lot + 1, court.pour(lot, 4, 0));
        }
    }

    private static void howMany() {
        Check.sentence("IllegalArgumentException: many is not -1 to 4, or one of these bytes not -60 to 60;");
        for (int many : new int[] {-2, 5, LEAST_INT, GREATEST_INT}) {
            Still.refused("many " + many, IllegalArgumentException.class, FULL, c -> c.pour(0, many, 0));
        }
        court = Still.leaves(2);
        court.sit(0);
        court.pour(0, 0, 0);
        int steps = 0;
        for (int many = 4; many >= -1; many--) {
            Check.due("many " + many, 5 - many, court.pour(1, many, 0));
            steps += Math.max(0, many);
            Check.due("steps behind it", steps, court.taster(0, 3));
        }
    }

    private static void bytesOfSteps() {
        Check.sentence("with a ROW of the first many (0 to 4) of the four bytes of steps, the highest first; or with no"
                + " ROW (NONE): which cup of it, from 0 on.");
        for (int many = -1; many <= 4; many++) {
            court = Still.leaves(2);
            court.sit(0);
            Check.due("the first cup", 0, court.pour(0, 0, 0));
            // 1, -2, 60 and -60.
            Check.due("the second, many " + many, 1, court.pour(1, many, 0x01fe3cc4));
            String[] due = {"1", "-2", "60", "-60"};
            for (int mark = 0; mark < 4; mark++) {
                if (mark < many) {
                    Check.printed("scale for " + mark, court, due[mark], court.scale(0, mark, 1));
                } else {
                    Check.due("scale for " + mark + ", many " + many, -1, court.scale(0, mark, 1));
                }
            }
            court.sit(0);
            Check.due("the first cup of the next", 0, court.pour(1, many, 0));
        }
    }

    private static void stepsOfSixty() {
        Check.sentence("with a ROW of four STEPS (-60 to 60; for the MARKS 0 to 3), of fewer (the first ones),"
                + " or with no ROW at all.");
        for (int mark = 0; mark < 4; mark++) {
            for (int step : new int[] {-60, -59, 59, 60}) {
                court = Still.leaves(2);
                Still.step(court, 0, 0, 1, mark + 1, (step & 255) << (24 - 8 * mark));
                Check.printed("scale for " + mark, court, "" + step, court.scale(0, mark, 1));
                for (int other = 0; other < mark; other++) {
                    Check.printed("scale for " + other, court, "0", court.scale(0, other, 1));
                }
                for (int other = mark + 1; other < 4; other++) {
                    Check.due("scale for " + other, -1, court.scale(0, other, 1));
                }
            }
        }
    }

    private static void stepsBeyondSixty() {
        Check.sentence("one of these bytes not -60 to 60;");
        for (int mark = 0; mark < 4; mark++) {
            for (int step : new int[] {-128, -61, 61, 127}) {
                int row = (step & 255) << (24 - 8 * mark);
                for (int many = -1; many <= 4; many++) {
                    int upTo = many;
                    String what = "step " + step + " for " + mark + ", many " + many;
                    if (many > mark) {
                        court = new TeaCourt();
                        Still.everything(court);
                        Check.refused(what, IllegalArgumentException.class, () -> court.pour(0, upTo, row));
                        Check.due("cups behind it", 8, court.count(2));
                    } else {
                        court = new TeaCourt();
                        Still.everything(court);
                        Check.due(what, 1, court.pour(0, many, row));
                    }
                }
                Still.refused("step " + step + " for " + mark, IllegalArgumentException.class, FULL,
                        c -> c.pour(0, 4, row));
            }
        }
        court = Still.leaves(1);
        court.sit(0);
        Check.refused("61 in a first cup, too", IllegalArgumentException.class, () -> court.pour(0, 1, 61 << 24));
    }

    private static void fromTheSecondCupOn() {
        Check.sentence("from the second cup on, each cup's STEP for it leads from the LOT of the cup ahead to its own.");
        court = Still.leaves(3);
        Check.due("steps without a cup", 0, court.taster(0, 3));
        court.sit(0);
        Check.due("steps of a sitting without a cup", 0, court.taster(0, 3));
        court.pour(2, 4, Still.row(9, 9, 9, 9));
        Check.due("steps of one cup", 0, court.taster(0, 3));
        Check.due("one cup hangs nowhere", -1, court.hangs(0, 0, 2));
        court.pour(1, 4, Still.row(7, 0, 0, 0));
        Check.due("steps of two cups", 4, court.taster(0, 3));
        Check.printed("from 2 to 1 it is 7 more", court, "-7", court.scale(0, 0, 2));
        court.pour(0, 4, Still.row(2, 0, 0, 0));
        Check.due("steps of three cups", 8, court.taster(0, 3));
        Check.printed("from 1 to 0 it is 2 more", court, "-2", court.scale(0, 0, 1));
        Check.printed("from 2 to 0 it is 9 more", court, "-9", court.scale(0, 0, 2));
    }

    private static void firstRowsAreNotLookedAt() {
        Check.sentence("(The first cup's ROW is never looked at.)");
        for (int many = -1; many <= 4; many++) {
            for (int step = -60; step <= 60; step += 60) {
                court = Still.leaves(2);
                court.sit(0);
                court.pour(0, many, Still.row(step, step, step, step));
                court.pour(1, 4, Still.row(1, 2, 3, 4));
                Check.due("steps behind a first row of " + many, 4, court.taster(0, 3));
                for (int mark = 0; mark < 4; mark++) {
                    Check.printed("scale for " + mark, court, "" + (mark + 1), court.scale(0, mark, 1));
                }
            }
        }
    }

    private static void missingRows() {
        Check.sentence("Where a ROW is missing the SITTING is at its end, for all MARKS");
        court = Still.leaves(4);
        court.sit(0);
        court.pour(0, 4, 0);
        court.pour(1, 4, Still.row(1, 1, 1, 1));
        court.pour(2, -1, Still.row(1, 1, 1, 1));
        court.pour(3, 4, Still.row(1, 1, 1, 1));
        court.pour(0, 4, Still.row(1, 1, 1, 1));
        Check.due("steps", 4, court.taster(0, 3));
        Check.due("cups all the same", 5, court.taster(0, 2));
        for (int mark = 0; mark < 4; mark++) {
            Check.due("0 for " + mark, 0, court.hangs(0, mark, 0));
            Check.due("1 for " + mark, 0, court.hangs(0, mark, 1));
            Check.due("2 for " + mark, -1, court.hangs(0, mark, 2));
            Check.due("3 for " + mark, -1, court.hangs(0, mark, 3));
        }
        court.sit(0);
        court.pour(2, 4, 0);
        court.pour(3, 4, 0);
        Check.due("the next sitting is read again", 8, court.taster(0, 3));
    }

    private static void shortRows() {
        Check.sentence("where a ROW has no STEP for this MARK, for this one.");
        for (int many = 0; many <= 4; many++) {
            court = Still.leaves(4);
            court.sit(0);
            court.pour(0, 4, 0);
            court.pour(1, 4, 0);
            court.pour(2, many, 0);
            court.pour(3, 4, 0);
            Check.due("steps with a row of " + many, 4 + 2 * many, court.taster(0, 3));
            for (int mark = 0; mark < 4; mark++) {
                Check.due("1 for " + mark, 0, court.hangs(0, mark, 1));
                Check.due("2 for " + mark + " by a row of " + many, mark < many ? 0 : -1, court.hangs(0, mark, 2));
                Check.due("3 for " + mark + " behind a row of " + many, mark < many ? 0 : -1, court.hangs(0, mark, 3));
            }
        }
    }

    private static void whatIsAheadCounts() {
        Check.sentence("What is ahead counts.");
        for (int many = -1; many <= 0; many++) {
            court = Still.leaves(3);
            court.sit(0);
            court.pour(0, 4, 0);
            court.pour(1, 1, Still.row(5, 0, 0, 0));
            court.pour(2, many, 0);
            Check.due("steps", 1, court.taster(0, 3));
            Check.printed("scale of 1", court, "5", court.scale(0, 0, 1));
        }
    }

    private static void counts() {
        Check.sentence("0 LOTS, 1 SITTINGS, 2 cups, 3 PARTS collected, 4 bytes of the PAGE, 5 acts that can be undone;"
                + " NONE for others.");
        for (int what : new int[] {-1, 6, 7, LEAST_INT, GREATEST_INT}) {
            Still.answers("count(" + what + ")", -1, FULL, c -> c.count(what));
        }
        court = Still.leaves(40);
        for (int i = 0; i < 60; i++) {
            court.sit(i % 8);
            // Tasters 4 to 7 have seven sittings, the others eight.
            for (int k = 0; k < (i >= 52 && i < 56 ? 6 : 3); k++) {
                court.pour(k, -1, 0);
            }
        }
        for (int i = 0; i < 5; i++) {
            court.part(0, 1);
        }
        int[] full = {40, 60, 192, 4, 0, 12};
        for (int what = 0; what < 6; what++) {
            Check.due("count(" + what + ") when all is full", full[what], court.count(what));
        }
        for (int taster = 0; taster < 8; taster++) {
            Check.due("cups of " + taster, 24, court.taster(taster, 2));
        }
    }

    private static void noSuchTaster() {
        Check.sentence("0 TRUST, 1 LOOPS, 2 cups, 3 STEPS of all MARKS. IndexOutOfBoundsException: no such TASTER;"
                + " IllegalArgumentException: another what.");
        for (int taster : new int[] {-1, 8, LEAST_INT, GREATEST_INT}) {
            for (int what = 0; what < 4; what++) {
                int asked = what;
                Still.refused("taster(" + taster + ", " + what + ")", IndexOutOfBoundsException.class, FULL,
                        c -> c.taster(taster, asked));
            }
        }
        for (int what : new int[] {-1, 4, LEAST_INT, GREATEST_INT}) {
            for (int taster = 0; taster < 8; taster += 7) {
                int who = taster;
                Still.refused("taster(" + taster + ", " + what + ")", IllegalArgumentException.class, FULL,
                        c -> c.taster(who, what));
            }
        }
    }

    private static void told(String what, int... due) {
        for (int i = 0; i < 4; i++) {
            Check.due("taster(0, " + i + ") " + what, due[i], court.taster(0, i));
        }
    }

    private static void loops() {
        Check.sentence("LOOPS: for each MARK the STEPS less the LOTS in them, and one more for each lot of LOTS that"
                + " HANG TOGETHER; together.");
        court = Still.leaves(6);
        told("without a cup", 1, 0, 0, 0);
        for (int lot = 1; lot < 6; lot++) {
            Still.step(court, 0, 0, lot, 1, 0);
            told("of a tree", 1, 0, 2 * lot, lot);
        }
        Still.step(court, 0, 4, 5, 1, 0);
        told("of one more", 60, 1, 12, 6);
        Still.step(court, 0, 4, 5, 2, 0);
        told("of one more, and a first for another mark", 60, 2, 14, 8);
        court = Still.leaves(6);
        for (int lot = 0; lot < 6; lot += 2) {
            Still.step(court, 0, lot, lot + 1, 1, 0);
            told("of lots apart", 1, 0, lot + 2, lot / 2 + 1);
        }
        Still.step(court, 0, 5, 4, 1, 0);
        told("of two in a circle", 60, 1, 8, 4);
        court = Still.leaves(1);
        Still.step(court, 0, 0, 0, 1, 0);
        told("of one in a step with itself", 60, 1, 2, 1);
    }

    /** A taster whose AGREE is half the sum of the squares of these, one for each mark. */
    private static void trusted(int due, int... apart) {
        court = Still.leaves(2);
        Still.step(court, 0, 0, 1, 4, 0);
        Still.step(court, 0, 0, 1, 4, Still.row(apart[0], apart[1], apart[2], apart[3]));
        int twice = 0;
        for (int d : apart) {
            twice += d * d;
        }
        Check.printed("agree", court, Ratio.of(twice, 2) + "", court.agree(0));
        Check.due("TRUST if AGREE is " + twice + "/2", due, court.taster(0, 0));
    }

    private static void trust() {
        Check.sentence("TRUST: 1, if LOOPS are 0; else 60 by (1 and AGREE cut to a whole number), cut, at least 1.");
        trusted(60, 0, 0, 0, 0);
        trusted(60, 1, 0, 0, 0);
        trusted(30, 1, 1, 0, 0);
        trusted(30, 1, 1, 1, 0);
        trusted(20, 2, 0, 0, 0);
        // 14 and a half to 20: by 15, by 16, by 19, by 20, by 20, by 21.
        trusted(4, 5, 2, 0, 0);
        trusted(3, 5, 2, 1, 0);
        trusted(3, 6, 1, 0, 0);
        trusted(3, 6, 1, 1, 0);
        trusted(3, 6, 1, 1, 1);
        trusted(2, 6, 2, 0, 0);
        // 29, 30; 58, 59, 59 and a half, 60, and more than that.
        trusted(2, 7, 3, 0, 0);
        trusted(1, 7, 3, 1, 1);
        trusted(1, 10, 4, 0, 0);
        trusted(1, 10, 3, 3, 0);
        trusted(1, 10, 3, 3, 1);
        trusted(1, 10, 4, 2, 0);
        trusted(1, 60, -60, 60, -60);
        court = Still.leaves(2);
        Still.step(court, 0, 0, 1, 4, Still.row(60, 60, 60, 60));
        Check.due("TRUST without loops", 1, court.taster(0, 0));
    }

    public static void main(String[] args) {
        tasters();
        noSuchTasterSits();
        atMostSixty();
        noneBeginsAtSixty();
        theOneAheadIsOver();
        oneToTenCups();
        anEleventhCup();
        atMostTwentyFourCups();
        aTwentyFifthCup();
        atMostSixLots();
        aSeventhLot();
        noSittingToPourIn();
        noLotToPour();
        howMany();
        bytesOfSteps();
        stepsOfSixty();
        stepsBeyondSixty();
        fromTheSecondCupOn();
        firstRowsAreNotLookedAt();
        missingRows();
        shortRows();
        whatIsAheadCounts();
        counts();
        noSuchTaster();
        loops();
        trust();
        Check.end();
    }
}
