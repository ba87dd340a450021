import java.util.NoSuchElementException;
import java.util.function.Consumer;

/** Each sentence that names a boundary case, of promises 12 to 15 and of the terms that they use. */
public final class EdgesOfScalesTest {
    private static final int LEAST_INT = Integer.MIN_VALUE;
    private static final int GREATEST_INT = Integer.MAX_VALUE;
    private static final int[] NO_TASTERS = {-1, 8, LEAST_INT, GREATEST_INT};
    private static final int[] NO_MARKS = {-1, 4, LEAST_INT, GREATEST_INT};
    private static final int[] NO_LOTS = {-1, 6, 39, 40, LEAST_INT, GREATEST_INT};
    private static final Consumer<TeaCourt> FULL = Still::everything;
    private static TeaCourt court;

    private static void scaled(int taster, int mark, int lot, String due) {
        Check.printed("scale(" + taster + ", " + mark + ", " + lot + ")", court, due, court.scale(taster, mark, lot));
    }

    private static void middled(int lot, int mark, String due) {
        Check.printed("middle(" + lot + ", " + mark + ")", court, due, court.middle(lot, mark));
    }

    private static int first(int step) {
        return step << 24;
    }

    private static void inNoStep() {
        Check.sentence("The LOT with the least number that HANGS TOGETHER with a LOT, of a TASTER and MARK; NONE if it"
                + " is in no STEP.");
        court = Still.leaves(5);
        court.sit(3);
        court.pour(4, -1, 0);
        Check.due("of one cup", -1, court.hangs(3, 0, 4));
        court.pour(2, 1, 0);
        Check.due("of a second cup", 2, court.hangs(3, 0, 2));
        Check.due("of the first of two", 2, court.hangs(3, 0, 4));
        Check.due("for a mark of no step", -1, court.hangs(3, 1, 4));
        Check.due("of a lot without a cup", -1, court.hangs(3, 0, 3));
        Check.due("of a lot below all", -1, court.hangs(3, 0, 0));
        Check.due("of another taster", -1, court.hangs(2, 0, 2));
        court.pour(1, -1, 0);
        Check.due("of a cup without a row", -1, court.hangs(3, 0, 1));
        Check.due("undo()", 3, court.undo());
        Check.due("undo()", 3, court.undo());
        Check.due("of one cup again", -1, court.hangs(3, 0, 4));
    }

    private static void withItself() {
        Check.sentence("over whatever LOTS, in whatever direction (each LOT in a STEP with itself).");
        court = Still.leaves(4);
        Still.step(court, 7, 3, 3, 1, first(1));
        Check.due("a step from 3 to 3", 3, court.hangs(7, 0, 3));
        scaled(7, 0, 3, "0");
        Still.step(court, 7, 2, 1, 1, 0);
        Check.due("2, by a step from it", 1, court.hangs(7, 0, 2));
        Check.due("1, by a step to it", 1, court.hangs(7, 0, 1));
        Check.due("3 still", 3, court.hangs(7, 0, 3));
        Still.step(court, 7, 2, 3, 1, 0);
        Check.due("3, over 2", 1, court.hangs(7, 0, 3));
        Still.step(court, 7, 3, 0, 1, 0);
        for (int lot = 0; lot < 4; lot++) {
            Check.due(lot + ", over all", 0, court.hangs(7, 0, lot));
        }
    }

    private static void sixHangTogether() {
        Check.sentence("two LOTS HANG TOGETHER if STEPS lead from one to the other, over whatever LOTS, in whatever"
                + " direction");
        // The chain's links come in an order in which the ends are joined last.
        int[][] links = {{34, 35}, {38, 39}, {36, 37}, {37, 38}, {35, 36}};
        int[][] due = {{34, 34, -1, -1, -1, -1}, {34, 34, -1, -1, 38, 38}, {34, 34, 36, 36, 38, 38},
            {34, 34, 36, 36, 36, 36}, {34, 34, 34, 34, 34, 34}};
        court = Still.leaves(40);
        for (int i = 0; i < links.length; i++) {
            Still.step(court, 0, links[i][i % 2], links[i][1 - i % 2], 1, 0);
            for (int lot = 34; lot < 40; lot++) {
                Check.due("hangs(0, 0, " + lot + ") by " + (i + 1) + " links", due[i][lot - 34],
                        court.hangs(0, 0, lot));
            }
        }
    }

    private static void wrongHangs() {
        Check.sentence("NONE if it is in no STEP. IndexOutOfBoundsException: no such TASTER or MARK;"
                + " NoSuchElementException: no such LOT.");
        for (int taster : NO_TASTERS) {
            Still.refused("hangs of " + taster, IndexOutOfBoundsException.class, FULL, c -> c.hangs(taster, 0, 0));
        }
        for (int mark : NO_MARKS) {
            Still.refused("hangs for " + mark, IndexOutOfBoundsException.class, FULL, c -> c.hangs(1, mark, 0));
        }
        for (int lot : NO_LOTS) {
            Still.refused("hangs, lot " + lot, NoSuchElementException.class, FULL, c -> c.hangs(1, 0, lot));
        }
        Still.answers("hangs(7, 3, 5)", -1, FULL, c -> c.hangs(7, 3, 5));
        Still.answers("hangs(0, 0, 0)", -1, FULL, c -> c.hangs(0, 0, 0));
    }

    private static void leastIsZero() {
        Check.sentence("0 to the one with the least number of those that HANG TOGETHER;");
        court = Still.leaves(6);
        Still.step(court, 0, 5, 1, 1, first(4));
        Still.step(court, 0, 4, 3, 1, first(-6));
        scaled(0, 0, 1, "0");
        scaled(0, 0, 5, "-4");
        scaled(0, 0, 3, "0");
        scaled(0, 0, 4, "6");
        Still.step(court, 0, 4, 5, 1, first(1));
        scaled(0, 0, 1, "0");
        scaled(0, 0, 5, "-4");
        scaled(0, 0, 4, "-5");
        scaled(0, 0, 3, "-11");
        Still.step(court, 0, 3, 0, 1, first(60));
        scaled(0, 0, 0, "0");
        scaled(0, 0, 3, "-60");
        scaled(0, 0, 1, "-49");
    }

    private static void widestScales() {
        Check.sentence("such that the SUM over all STEPS (a to b, d) of (SCALE of b - SCALE of a - d)^2 is least.");
        for (int sign = -1; sign <= 1; sign += 2) {
            court = Still.leaves(6);
            court.sit(0);
            for (int lot = 0; lot < 6; lot++) {
                court.pour(lot, 4, Still.row(60 * sign, 0, -60 * sign, 60 * sign));
            }
            for (int lot = 0; lot < 6; lot++) {
                scaled(0, 0, lot, "" + 60 * lot * sign);
                scaled(0, 1, lot, "0");
                scaled(0, 2, lot, "" + -60 * lot * sign);
            }
            // Back again, by as far as can be said in one step: spread over six of them, and over the one.
            Still.step(court, 0, 5, 0, 1, first(60 * sign));
            scaled(0, 0, 5, "0");
            Check.printed("agree", court, "21600", court.agree(0));
        }
    }

    private static void twentyFourCups() {
        Check.sentence("such that the SUM over all STEPS (a to b, d) of (SCALE of b - SCALE of a - d)^2 is least.");
        court = Still.leaves(2);
        for (int i = 0; i < 24; i++) {
            if (i % 8 == 0) {
                court.sit(0);
            }
            // 0 to 1: eleven times 60, and 1 to 0: ten times 60.
            court.pour(i % 2, 1, first(60));
        }
        Check.due("steps", 21, court.taster(0, 3));
        // Twelve times from 0 to 1, nine times back: (12 - 9) * 60 by 21.
        scaled(0, 0, 1, "60/7");
        Check.printed("agree", court, Ratio.of(21 * 3600).minus(Ratio.of(180 * 180, 21)) + "", court.agree(0));
    }

    private static void noScale() {
        Check.sentence("The SCALE's number is printed: how many bytes; NONE, and the PAGE stays, if the LOT is in no STEP.");
        Still.answers("scale of a lot without a cup", -1, FULL, c -> c.scale(1, 0, 3));
        Still.answers("scale for a mark without a step", -1, FULL, c -> c.scale(1, 2, 2));
        Still.answers("scale of a taster without a step", -1, FULL, c -> c.scale(0, 0, 2));
        Still.answers("scale of a taster without a cup", -1, FULL, c -> c.scale(7, 3, 0));
        Still.answers("scale of a blend", -1, FULL, c -> c.scale(1, 0, 5));
        court = new TeaCourt();
        Still.everything(court);
        Check.due("scale of a lot without a cup", -1, court.scale(1, 0, 3));
        Check.same("the page", "7/2", Check.page(court));
        scaled(1, 0, 0, "0");
    }

    private static void wrongScales() {
        Check.sentence("if the LOT is in no STEP. Exceptions likewise.");
        for (int taster : NO_TASTERS) {
            Still.refused("scale of " + taster, IndexOutOfBoundsException.class, FULL, c -> c.scale(taster, 0, 0));
        }
        for (int mark : NO_MARKS) {
            Still.refused("scale for " + mark, IndexOutOfBoundsException.class, FULL, c -> c.scale(1, mark, 0));
        }
        for (int lot : NO_LOTS) {
            Still.refused("scale, lot " + lot, NoSuchElementException.class, FULL, c -> c.scale(1, 0, lot));
        }
    }

    private static void agreeOfNothing() {
        Check.sentence("AGREE of a TASTER: the least SUMS of the four MARKS together.");
        court = Still.leaves(2);
        for (int taster = 0; taster < 8; taster++) {
            Check.printed("agree(" + taster + ") without a cup", court, "0", court.agree(taster));
        }
        court.sit(0);
        court.pour(0, 4, Still.row(60, 60, 60, 60));
        Check.printed("agree of one cup", court, "0", court.agree(0));
        court.pour(1, 4, Still.row(60, 60, 60, 60));
        Check.printed("agree of one step", court, "0", court.agree(0));
        court.pour(1, 4, Still.row(60, -60, 60, -60));
        Check.printed("agree with steps to itself for four marks", court, "14400", court.agree(0));
        Still.step(court, 0, 0, 1, 2, Still.row(59, 57, 0, 0));
        Check.printed("and halves of two", court, "14405", court.agree(0));
        Check.printed("of others still", court, "0", court.agree(1));
    }

    private static void wrongAgree() {
        Check.sentence("AGREE is printed: how many bytes. IndexOutOfBoundsException likewise.");
        for (int taster : NO_TASTERS) {
            Still.refused("agree of " + taster, IndexOutOfBoundsException.class, FULL, c -> c.agree(taster));
        }
        court = new TeaCourt();
        Check.printed("agree(0) without lots", court, "0", court.agree(0));
        Check.printed("agree(7) without lots", court, "0", court.agree(7));
    }

    private static void noMiddle() {
        Check.sentence("The MIDDLE is printed: how many bytes; NONE, and the PAGE stays, without one.");
        Still.answers("middle of a lot without a cup", -1, FULL, c -> c.middle(3, 0));
        Still.answers("middle of a blend", -1, FULL, c -> c.middle(5, 0));
        Still.answers("middle of lot 0 without lots in steps", -1, c -> {
            c.lot(0, 0, 0);
            c.lot(0, 0, 0);
            c.lot(0, 0, 0);
            Still.step(c, 0, 1, 2, 4, 0);
            c.taste(0, 0, 0);
        }, c -> c.middle(0, 0));
        court = new TeaCourt();
        Still.everything(court);
        Check.due("middle of a lot without a cup", -1, court.middle(3, 0));
        Check.same("the page", "7/2", Check.page(court));
        middled(0, 0, "0");
    }

    private static void noSuchTasterForTheMiddle() {
        Check.sentence("There is none if there is no such TASTER.");
        court = Still.leaves(5);
        Check.due("without cups", -1, court.middle(1, 0));
        Check.due("of lot 0 without cups", -1, court.middle(0, 0));
        Still.step(court, 0, 1, 2, 1, first(3));
        Check.due("1 hangs together, but not with 0", -1, court.middle(1, 0));
        Check.due("nor does 2", -1, court.middle(2, 0));
        Still.step(court, 0, 0, 3, 1, first(7));
        middled(3, 0, "7");
        middled(0, 0, "0");
        Check.due("1 still does not", -1, court.middle(1, 0));
        Check.due("for another mark", -1, court.middle(3, 1));
        // 1 with 3 of another taster leads nowhere: he says nothing of 0.
        Still.step(court, 1, 3, 1, 1, first(1));
        Check.due("1 over two tasters", -1, court.middle(1, 0));
        Still.step(court, 7, 2, 0, 1, first(-60));
        middled(2, 0, "60");
        Check.due("4, of which nobody says anything", -1, court.middle(4, 0));
        Check.due("undo()", 3, court.undo());
        Check.due("2 again", -1, court.middle(2, 0));
    }

    private static void allEightTasters() {
        Check.sentence("(its SCALE less that of LOT 0), weighed by TRUST: the sum of products by the sum of TRUSTS.");
        court = Still.leaves(2);
        for (int taster = 0; taster < 8; taster++) {
            Still.step(court, taster, 0, 1, 1, first(taster * taster));
        }
        // 0, 1, 4, .. 49 together by 8.
        middled(1, 0, "35/2");
        Still.step(court, 7, 1, 0, 1, first(-49));
        middled(1, 0, Ratio.of(91 + 60 * 49, 67) + "");
        Still.step(court, 0, 1, 0, 1, first(0));
        middled(1, 0, Ratio.of(91 + 60 * 49, 60 + 6 + 60) + "");
    }

    private static void wrongMiddles() {
        Check.sentence("and the PAGE stays, without one. NoSuchElementException: no such LOT; IndexOutOfBoundsException:"
                + " no such MARK.");
        for (int mark : NO_MARKS) {
            Still.refused("middle for " + mark, IndexOutOfBoundsException.class, FULL, c -> c.middle(0, mark));
        }
        for (int lot : NO_LOTS) {
            Still.refused("middle of lot " + lot, NoSuchElementException.class, FULL, c -> c.middle(lot, 0));
        }
    }

    private static void marks() {
        Check.sentence("for the MARKS 0 to 3");
        court = Still.leaves(2);
        Still.step(court, 0, 0, 1, 4, Still.row(10, 20, 30, 40));
        for (int mark = 0; mark < 4; mark++) {
            scaled(0, mark, 1, "" + 10 * (mark + 1));
            middled(1, mark, "" + 10 * (mark + 1));
            Check.due("hangs for " + mark, 0, court.hangs(0, mark, 1));
        }
    }

    public static void main(String[] args) {
        inNoStep();
        withItself();
        sixHangTogether();
        wrongHangs();
        leastIsZero();
        widestScales();
        twentyFourCups();
        noScale();
        wrongScales();
        agreeOfNothing();
        wrongAgree();
        noMiddle();
        noSuchTasterForTheMiddle();
        allEightTasters();
        wrongMiddles();
        marks();
        Check.end();
    }
}
