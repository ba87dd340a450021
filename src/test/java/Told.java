import java.util.function.IntSupplier;

/**
 * What an object tells of itself, in one text: what it shows at first, then what it does when it goes on and
 * when acts are undone. Two objects that tell the same hold the same.
 */
final class Told {
    private static final int MOST_CALLS = 512;
    /** What is left for the calls that made the object what it is. */
    private static final int MOST_CALLS_AHEAD = 140;

    private final TeaCourt court;
    private final StringBuilder text = new StringBuilder();
    private int calls = 0;

    private Told(TeaCourt court) {
        this.court = court;
    }

    static String of(TeaCourt court) {
        Told told = new Told(court);
        told.shown();
        told.asked();
        told.goneOn();
        told.undone();
        Check.same("so few calls that the object holds out", true, told.calls <= MOST_CALLS - MOST_CALLS_AHEAD);
        return told.text.toString();
    }

    private int note(String call, IntSupplier made) {
        calls++;
        Object answer = Check.answer(made);
        text.append(call).append('=').append(answer).append(' ');
        return answer instanceof Integer ? (Integer) answer : -1;
    }

    private void page() {
        int length = note("page", () -> court.count(4));
        for (int k = 0; k < length; k++) {
            int at = k;
            calls++;
            text.append((char) court.octet(at));
        }
        text.append('\n');
    }

    /** What shows without a new print, and the shares of the least() that was. */
    private void shown() {
        page();
        counts();
        for (int k = 0; k < 4; k++) {
            int which = k;
            if (note("share", () -> court.share(which)) > 0) {
                page();
            }
        }
        for (int i = 0; i < 12; i++) {
            int bin = i;
            note("look", () -> court.look(bin));
            note("card", () -> court.card(bin));
        }
        int lots = court.count(0);
        for (int i = Math.max(0, lots - 6); i < lots; i++) {
            int lot = i;
            for (int k = 0; k < 6; k++) {
                int what = k;
                note("about", () -> court.about(lot, what));
            }
        }
    }

    private void counts() {
        for (int k = 0; k < 6; k++) {
            int what = k;
            note("count", () -> court.count(what));
        }
    }

    private void asked() {
        for (int taster = 0; taster < 3; taster++) {
            int who = taster;
            for (int k = 0; k < 4; k++) {
                int what = k;
                note("taster", () -> court.taster(who, what));
                note("hangs", () -> court.hangs(who, what, 1));
                note("hangs", () -> court.hangs(who, what, 2));
            }
            note("scale", () -> court.scale(who, 0, 2));
            page();
            note("agree", () -> court.agree(who));
            page();
        }
        note("middle", () -> court.middle(1, 0));
        page();
        for (int lot = 2; lot < 6; lot++) {
            for (int mark = 0; mark < 4; mark++) {
                int which = lot;
                int ofMark = mark;
                if (note("taste", () -> court.taste(which, ofMark, 500)) > 0 && mark % 2 == 1) {
                    page();
                }
            }
        }
        note("stale", () -> court.stale(4, 0));
        note("stale", () -> court.stale(5, 0));
        note("least", () -> court.least(10, 20));
        page();
        note("share", () -> court.share(0));
        page();
        note("share", () -> court.share(1));
        page();
    }

    /** A BLEND tells which PARTS there were, a cup in which SITTING it comes. */
    private void goneOn() {
        int blend = note("blend", () -> court.blend(9000));
        for (int what = 1; what < 6; what++) {
            int asked = what;
            note("about", () -> court.about(blend, asked));
        }
        note("pour", () -> court.pour(0, 1, 9 << 24));
        note("cups", () -> court.taster(0, 2));
    }

    private void undone() {
        for (int i = 0; i < 13; i++) {
            note("undo", court::undo);
            for (int k = 0; k < 6; k++) {
                int what = k;
                if (k != 4) {
                    note("count", () -> court.count(what));
                }
            }
        }
        note("least", () -> court.least(10, 20));
        page();
    }
}
