import java.util.function.Consumer;
import java.util.function.ToIntFunction;

/** Calls that change nothing: behind one, an object tells the same as another that was made alike without it. */
final class Still {
    private Still() {
    }

    /** The call is refused with this exception, and changes nothing. */
    static void refused(String what, Class<? extends RuntimeException> due, Consumer<TeaCourt> scene,
            ToIntFunction<TeaCourt> call) {
        unchanged(what, due.getSimpleName(), scene, call);
    }

    /** The call answers this, and changes nothing. */
    static void answers(String what, int due, Consumer<TeaCourt> scene, ToIntFunction<TeaCourt> call) {
        unchanged(what, due, scene, call);
    }

    private static void unchanged(String what, Object due, Consumer<TeaCourt> scene, ToIntFunction<TeaCourt> call) {
        TeaCourt touched = new TeaCourt();
        TeaCourt other = new TeaCourt();
        scene.accept(touched);
        scene.accept(other);
        Check.same(what, due, Check.answer(() -> call.applyAsInt(touched)));
        Check.same(what + ", and what is told behind it,", Told.of(other), Told.of(touched));
    }

    /** wish() as a call with an answer, so that it can be asked for like the others. */
    static int wished(TeaCourt court, int mark, int low, int high) {
        court.wish(mark, low, high);
        return 0;
    }

    static int row(int a, int b, int c, int d) {
        return (a & 255) << 24 | (b & 255) << 16 | (c & 255) << 8 | d & 255;
    }

    static int bits(double kilos) {
        return Float.floatToIntBits((float) kilos);
    }

    /** One step for one mark or more: a sitting of two cups. */
    static void step(TeaCourt court, int taster, int from, int to, int many, int row) {
        court.sit(taster);
        court.pour(from, -1, 0);
        court.pour(to, many, row);
    }

    static TeaCourt leaves(int many) {
        TeaCourt court = new TeaCourt();
        for (int i = 0; i < many; i++) {
            court.lot(0, 1, 0);
        }
        return court;
    }

    /** Something of all: six LOTS (one of each KIND), full BINS, cups, WISHES, PARTS, shares, 12 acts, a PAGE. */
    static void everything(TeaCourt court) {
        for (int kind = 0; kind < 5; kind++) {
            court.lot(kind, 10 + 7 * kind, 100 * kind);
        }
        step(court, 1, 0, 1, 4, row(3, -2, 5, 1));
        court.pour(2, 2, row(4, 4, 0, 0));
        court.pour(0, 1, row(-6, 0, 0, 0));
        step(court, 2, 2, 0, 4, row(-8, 1, 1, 1));
        court.pour(4, 3, row(2, 2, 2, 0));
        court.part(1, 2);
        court.part(3, 3);
        court.part(4, 1);
        court.blend(50);
        court.sit(0);
        court.pour(2, -1, 0);
        court.weigh(0, bits(1.5));
        court.weigh(1, bits(1.2));
        court.weigh(5, bits(0.9));
        court.put(4, 1, 0);
        court.put(2, 1, 5);
        court.put(11, 1, 1);
        court.put(0, 2, -7);
        court.wish(1, -50, 50);
        court.wish(3, -20, 8);
        court.least(10, 20);
        court.part(5, 1);
        court.part(4, 2);
        court.taste(4, 2, 600);
    }
}
