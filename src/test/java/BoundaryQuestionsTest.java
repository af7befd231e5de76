import java.util.function.Consumer;

/** That questions, and all calls of which the document says no change, change nothing. */
public final class BoundaryQuestionsTest {
    public static void main(String[] args) {
        questions();
        callsThatTell();
        Check.end();
    }

    /** A question to one of two organs that are alike; then they are still alike in all. */
    private static void asked(String call, Consumer<OrganWind> question) {
        OrganWind x = Organs.rich();
        question.accept(x);
        Organs.compare(call, x, Organs.rich());
    }

    private static void questions() {
        Check.sentence("Promise 21", "(nothing is changed by them)");
        for (int what = 0; what < 3; what++) {
            int of = what;
            asked("search(" + of + ")", x -> Check.due("it finds", x.search(of) >= 0 ? 1 : 0, 1));
        }
        for (int stop = 3; stop < 8; stop++) {
            int of = stop;
            asked("robbed(" + of + ")", x -> Check.due("it counts", x.robbed(of) >= 0 ? 1 : 0, 1));
        }
        for (int ticks : new int[] {1, 5, 1000}) {
            asked("lowest(" + ticks + ")", x -> Check.due("it forecasts", x.lowest(ticks) >= 0 ? 1 : 0, 1));
        }
    }

    private static void callsThatTell() {
        Check.sentence("History", "Each call of which it is said that it is recorded, and that reports no error,"
                + " records the state ahead of it (also if nothing becomes different);");
        for (int what = 0; what < 10; what++) {
            int of = what;
            asked("tell(" + of + ")", x -> x.tell(of));
            asked("stop(2, " + of % 5 + ")", x -> x.stop(2, of % 5));
            asked("chest(0, " + of % 3 + ")", x -> x.chest(0, of % 3));
            asked("chest(1, " + of % 3 + ")", x -> x.chest(1, of % 3));
            asked("strokes(" + of % 2 + ")", x -> x.strokes(of % 2));
            asked("pipe(0, 5, " + of % 5 + ")", x -> x.pipe(0, 5, of % 5));
            asked("pipe(7, 1, " + of % 5 + ")", x -> x.pipe(7, 1, of % 5));
            asked("reason(2, " + of + ")", x -> x.reason(2, of));
        }
        asked("mistuned", x -> x.mistuned());
        asked("faultPosition", x -> x.faultPosition());
        asked("checksum", x -> x.checksum());
    }
}
