import java.util.function.Supplier;
import java.util.function.ToIntFunction;

/** The sentences of "Description", the paragraphs of errors and of constants, at their boundaries. */
public final class BoundaryErrorsTest {
    private static final String ERRORS = "Errors";
    private static final String CONSTANTS = "The constants";
    private static final int BAD_INDEX = -1000001;
    private static final int BAD_VALUE = -1000002;
    private static final int NOT_POSSIBLE = -1000003;
    private static final int FULL = -1000004;
    private static final int NONE = -1000005;
    private static final int[] OUTSIDE = {-1, Integer.MIN_VALUE, Integer.MAX_VALUE};
    private static final String ORDER = "Where several can apply, the order of the @return line is the order of"
            + " the checks.";

    public static void main(String[] args) {
        negativeConstants();
        constants();
        indexAheadOfValue();
        valueAheadOfFull();
        indexAheadOfFullOrNotPossible();
        noneBehindErrors();
        refusedIndices();
        refusedValues();
        refusedAsNotPossible();
        refusedAsFull();
        Check.end();
    }

    private static void negativeConstants() {
        Check.sentence(ERRORS, "Errors are reported by negative constants.");
        OrganWind x = new OrganWind();
        Check.due("draw(8)", x.draw(8, true) < 0 ? 1 : 0, 1);
        Check.due("tick(0)", x.tick(0) < 0 ? 1 : 0, 1);
        Check.due("undo()", x.undo() < 0 ? 1 : 0, 1);
        Check.due("the errors differ", x.draw(8, true) - x.tick(0), 1);
    }

    private static void constants() {
        Check.sentence(CONSTANTS, "`BAD_INDEX = -1000001`: There is no such stop, manual, key, setting, chest, feeder,"
                + " slot or number.");
        OrganWind x = new OrganWind();
        Check.due("BAD_INDEX", OrganWind.BAD_INDEX, -1000001);
        int[] answers = {x.stop(8, 0), x.press(2, 0, true), x.press(0, 24, true), x.set(9, 0), x.chest(2, 0),
            x.strokes(2), x.save(2), x.tell(10), x.search(3)};
        for (int answer : answers) {
            Check.due("no such index", answer, -1000001);
        }
        Check.sentence(CONSTANTS, "`BAD_VALUE = -1000002`: Another argument is out of range.");
        Check.due("BAD_VALUE", OrganWind.BAD_VALUE, -1000002);
        int[] values = {x.layOut(0, 2, 4, 20), x.stop(0, 5), x.set(0, 201), x.tick(201), x.append(128), x.chest(0, 3),
            x.pipe(0, 0, 5), x.lowest(1001)};
        for (int answer : values) {
            Check.due("out of range", answer, -1000002);
        }
        Check.sentence(CONSTANTS, "`NOT_POSSIBLE = -1000003`: The call is not possible now.");
        Check.due("NOT_POSSIBLE", OrganWind.NOT_POSSIBLE, -1000003);
        Check.due("undo", x.undo(), -1000003);
        Check.due("restore", x.restore(0), -1000003);
        Check.sentence(CONSTANTS, "`FULL = -1000004`: There is no room.");
        Check.due("FULL", OrganWind.FULL, -1000004);
        Organs.write(x, "d0".repeat(40));
        Check.due("append", x.append('d'), -1000004);
        Check.sentence(CONSTANTS, "`NONE = -1000005`: There is no such thing; not an error.");
        Check.due("NONE", OrganWind.NONE, -1000005);
        Check.due("mistuned", x.mistuned(), -1000005);
        Check.due("faultPosition", x.faultPosition(), -1000005);
    }

    private static void indexAheadOfValue() {
        Check.sentence(ERRORS, ORDER);
        OrganWind x = new OrganWind();
        for (int bad : OUTSIDE) {
            Check.due("layOut", x.layOut(bad, bad, bad, bad), BAD_INDEX);
            Check.due("layOut", x.layOut(8, 2, 41, 201), BAD_INDEX);
            Check.due("stop", x.stop(bad, 5), BAD_INDEX);
            Check.due("stop", x.stop(8, bad), BAD_INDEX);
            Check.due("set", x.set(bad, bad), BAD_INDEX);
            Check.due("set", x.set(9, bad), BAD_INDEX);
            Check.due("chest", x.chest(bad, 3), BAD_INDEX);
            Check.due("chest", x.chest(2, bad), BAD_INDEX);
            Check.due("pipe, stop", x.pipe(bad, 0, 5), BAD_INDEX);
            Check.due("pipe, stop", x.pipe(8, 0, bad), BAD_INDEX);
            Check.due("pipe, key", x.pipe(0, bad, 5), BAD_INDEX);
            Check.due("pipe, key", x.pipe(0, 24, bad), BAD_INDEX);
        }
    }

    private static void valueAheadOfFull() {
        Check.sentence(ERRORS, ORDER);
        OrganWind x = new OrganWind();
        Organs.write(x, "d0".repeat(40));
        Check.due("append(128) to a full text", x.append(128), BAD_VALUE);
        Check.due("append(-1) to a full text", x.append(-1), BAD_VALUE);
        Check.due("append(127) to a full text", x.append(127), FULL);
        Check.due("append(0) to a full text", x.append(0), FULL);
    }

    private static void indexAheadOfFullOrNotPossible() {
        Check.sentence(ERRORS, ORDER);
        OrganWind x = new OrganWind();
        Check.due("tune, no such stop", x.tune(8, 0), BAD_INDEX);
        Check.due("tune, no such key", x.tune(0, 24), BAD_INDEX);
        Check.due("tune, does not speak", x.tune(0, 0), NOT_POSSIBLE);
        Check.due("restore, no such slot", x.restore(2), BAD_INDEX);
        Check.due("restore, no such slot", x.restore(-1), BAD_INDEX);
        Check.due("restore, nothing saved", x.restore(1), NOT_POSSIBLE);
        for (int stop = 0; stop < 8; stop++) {
            x.draw(stop, true);
        }
        Check.due("robbed, no such stop", x.robbed(8), BAD_INDEX);
        Check.due("robbed, no such stop", x.robbed(-1), BAD_INDEX);
        Check.due("robbed, drawn", x.robbed(7), NOT_POSSIBLE);
        for (int key = 0; key < 6; key++) {
            x.cipher(0, key, true);
        }
        Check.due("cipher, no such stop", x.cipher(8, 0, true), BAD_INDEX);
        Check.due("cipher, no such key", x.cipher(0, 24, true), BAD_INDEX);
        Check.due("cipher, a seventh one", x.cipher(0, 23, true), FULL);
    }

    private static void noneBehindErrors() {
        Check.sentence(ERRORS, "NONE is not an error and is returned only if no error applies.");
        OrganWind x = new OrganWind();
        Check.due("pipe, not open", x.pipe(0, 0, 4), NONE);
        Check.due("pipe, not open, no such number", x.pipe(0, 0, 5), BAD_VALUE);
        Check.due("pipe, not open, no such number", x.pipe(0, 0, -1), BAD_VALUE);
        Check.due("pipe, no such key", x.pipe(0, 24, 4), BAD_INDEX);
        Check.due("pipe, no such stop", x.pipe(8, 0, 2), BAD_INDEX);
        Check.due("search, nothing found", x.search(2), NONE);
        Check.due("search, no such number", x.search(3), BAD_INDEX);
        Check.due("search, no such number", x.search(-1), BAD_INDEX);
        x.draw(0, true);
        Check.due("a call with NONE is not refused: nor is it recorded", x.undo(), 0);
    }

    /** A refused call on one of two organs that are alike; then they are still alike in all. */
    private static void refused(String call, int error, Supplier<OrganWind> organ, ToIntFunction<OrganWind> refusal) {
        OrganWind x = organ.get();
        Check.due(call, refusal.applyAsInt(x), error);
        Organs.compare(call, x, organ.get());
    }

    private static void refusedIndices() {
        Check.sentence(ERRORS, "A call that reports an error changes nothing.");
        for (int bad : new int[] {-1, 24, Integer.MIN_VALUE, Integer.MAX_VALUE}) {
            int stop = bad == 24 ? 8 : bad;
            int two = bad == 24 ? 2 : bad;
            refused("layOut", BAD_INDEX, Organs::rich, x -> x.layOut(stop, 0, 33, 7));
            refused("stop", BAD_INDEX, Organs::rich, x -> x.stop(stop, 1));
            refused("set", BAD_INDEX, Organs::rich, x -> x.set(bad == 24 ? 9 : bad, 100));
            refused("cipher, stop", BAD_INDEX, Organs::rich, x -> x.cipher(stop, 0, false));
            refused("cipher, key", BAD_INDEX, Organs::rich, x -> x.cipher(2, bad, false));
            refused("draw", BAD_INDEX, Organs::rich, x -> x.draw(stop, true));
            refused("retire", BAD_INDEX, Organs::rich, x -> x.draw(stop, false));
            refused("press, manual", BAD_INDEX, Organs::rich, x -> x.press(two, 20, true));
            refused("press, key", BAD_INDEX, Organs::rich, x -> x.press(0, bad, true));
            refused("release, key", BAD_INDEX, Organs::rich, x -> x.press(0, bad, false));
            refused("chest", BAD_INDEX, Organs::rich, x -> x.chest(two, 0));
            refused("strokes", BAD_INDEX, Organs::rich, x -> x.strokes(two));
            refused("tell", BAD_INDEX, Organs::rich, x -> x.tell(bad));
            refused("pipe, stop", BAD_INDEX, Organs::rich, x -> x.pipe(stop, 0, 0));
            refused("pipe, key", BAD_INDEX, Organs::rich, x -> x.pipe(0, bad, 0));
            refused("reason, stop", BAD_INDEX, Organs::rich, x -> x.reason(stop, 0));
            refused("reason, key", BAD_INDEX, Organs::rich, x -> x.reason(0, bad));
            refused("tune, stop", BAD_INDEX, Organs::rich, x -> x.tune(stop, 5));
            refused("tune, key", BAD_INDEX, Organs::rich, x -> x.tune(0, bad));
            refused("search", BAD_INDEX, Organs::rich, x -> x.search(bad));
            refused("robbed", BAD_INDEX, Organs::rich, x -> x.robbed(stop));
            refused("save", BAD_INDEX, Organs::rich, x -> x.save(two));
            refused("restore", BAD_INDEX, Organs::rich, x -> x.restore(two));
        }
    }

    private static void refusedValues() {
        Check.sentence(ERRORS, "A call that reports an error changes nothing.");
        for (int bad : new int[] {-1, 20001, Integer.MIN_VALUE, Integer.MAX_VALUE}) {
            refused("layOut, manual", BAD_VALUE, Organs::rich, x -> x.layOut(0, bad, 33, 7));
            refused("layOut, demand", BAD_VALUE, Organs::rich, x -> x.layOut(0, 1, bad, 7));
            refused("layOut, least", BAD_VALUE, Organs::rich, x -> x.layOut(0, 1, 33, bad));
            for (int setting = 0; setting < 9; setting++) {
                int of = setting;
                refused("set " + setting, BAD_VALUE, Organs::rich, x -> x.set(of, bad));
            }
            refused("tick", BAD_VALUE, Organs::rich, x -> x.tick(bad));
            refused("append", BAD_VALUE, Organs::rich, x -> x.append(bad));
            refused("stop", BAD_VALUE, Organs::rich, x -> x.stop(0, bad));
            refused("chest", BAD_VALUE, Organs::rich, x -> x.chest(0, bad));
            refused("pipe", BAD_VALUE, Organs::rich, x -> x.pipe(0, 0, bad));
            refused("lowest", BAD_VALUE, Organs::rich, x -> x.lowest(bad));
        }
        refused("layOut, manual 2", BAD_VALUE, Organs::rich, x -> x.layOut(0, 2, 33, 7));
        refused("layOut, demand 0", BAD_VALUE, Organs::rich, x -> x.layOut(0, 1, 0, 7));
        refused("layOut, demand 41", BAD_VALUE, Organs::rich, x -> x.layOut(0, 1, 41, 7));
        refused("layOut, least 201", BAD_VALUE, Organs::rich, x -> x.layOut(0, 1, 33, 201));
        refused("tick 0", BAD_VALUE, Organs::rich, x -> x.tick(0));
        refused("tick 201", BAD_VALUE, Organs::rich, x -> x.tick(201));
        refused("append 128", BAD_VALUE, Organs::rich, x -> x.append(128));
        refused("lowest 0", BAD_VALUE, Organs::rich, x -> x.lowest(0));
        refused("lowest 1001", BAD_VALUE, Organs::rich, x -> x.lowest(1001));
    }

    private static OrganWind richWithFault() {
        OrganWind x = Organs.rich();
        Organs.write(x, "d7r0p023;t9;d8");
        return x;
    }

    private static OrganWind withoutHistoryAndSlots() {
        OrganWind x = new OrganWind();
        Organs.write(x, "d1p10;t3;");
        return x;
    }

    private static OrganWind withOneSlot() {
        OrganWind x = withoutHistoryAndSlots();
        x.save(0);
        x.tick(2);
        return x;
    }

    /** The chest lacks 120, for which an offset would have to be 240. */
    private static OrganWind untunable() {
        OrganWind x = new OrganWind();
        Organs.sound(x, 0, 0, 40);
        Organs.sound(x, 2, 0, 40);
        Organs.sound(x, 4, 0, 40);
        x.set(1, 100);
        x.set(0, 200);
        x.set(8, 32);
        return x;
    }

    private static OrganWind scarce() {
        OrganWind x = Organs.scarce();
        Organs.sound(x, 0, 0, 40);
        Organs.sound(x, 1, 0, 40);
        Organs.sound(x, 2, 0, 40);
        Organs.sound(x, 3, 0, 9);
        return x;
    }

    private static void refusedAsNotPossible() {
        Check.sentence(ERRORS, "A call that reports an error changes nothing.");
        refused("play of acts and a fault", NOT_POSSIBLE, BoundaryErrorsTest::richWithFault, x -> x.play());
        refused("tune, not drawn", NOT_POSSIBLE, Organs::rich, x -> x.tune(3, 0));
        refused("tune, not open", NOT_POSSIBLE, Organs::rich, x -> x.tune(0, 0));
        refused("tune, out of range", NOT_POSSIBLE, BoundaryErrorsTest::untunable, x -> x.tune(0, 23));
        refused("tune, gets too little", NOT_POSSIBLE, BoundaryErrorsTest::scarce, x -> x.tune(2, 23));
        refused("tune, asks for 0", NOT_POSSIBLE, BoundaryErrorsTest::scarce, x -> x.tune(3, 23));
        refused("robbed, drawn", NOT_POSSIBLE, Organs::rich, x -> x.robbed(0));
        refused("undo, empty", NOT_POSSIBLE, BoundaryErrorsTest::withoutHistoryAndSlots, x -> x.undo());
        refused("restore, empty", NOT_POSSIBLE, BoundaryErrorsTest::withoutHistoryAndSlots, x -> x.restore(0));
        refused("restore, the empty one", NOT_POSSIBLE, BoundaryErrorsTest::withOneSlot, x -> x.restore(1));
    }

    private static OrganWind richWithFullText() {
        OrganWind x = Organs.rich();
        Organs.write(x, "d0d1d2d3d4".repeat(7) + "p019;r3t1;");
        return x;
    }

    private static void refusedAsFull() {
        Check.sentence(ERRORS, "A call that reports an error changes nothing.");
        refused("cipher, a seventh one", FULL, Organs::rich, x -> x.cipher(0, 0, true));
        refused("cipher, of a stop that has one", FULL, Organs::rich, x -> x.cipher(7, 23, true));
        refused("append to a full text", FULL, BoundaryErrorsTest::richWithFullText, x -> x.append('d'));
        refused("append(0) to a full text", FULL, BoundaryErrorsTest::richWithFullText, x -> x.append(0));
        refused("append(128) to a full text", BAD_VALUE, BoundaryErrorsTest::richWithFullText, x -> x.append(128));
    }
}
