import java.util.function.ToIntFunction;

/** The sentences of "Description", the paragraph of the history, at their boundaries. */
public final class BoundaryHistoryTest {
    private static final String HISTORY = "History";
    private static final int NOT_POSSIBLE = -1000003;

    public static void main(String[] args) {
        atMost5();
        stateIsAllElse();
        bellowsAreOfTheState();
        textHistoryAndSlotsAreNot();
        recordedIfNothingChanges();
        stateAheadOfTheCall();
        onlyRecordedCalls();
        errorsAreNotRecorded();
        oldestIsDropped();
        Check.end();
    }

    private static void atMost5() {
        Check.sentence(HISTORY, "At most 5 states are kept;");
        for (int calls = 0; calls <= 7; calls++) {
            OrganWind x = new OrganWind();
            for (int i = 0; i < calls; i++) {
                x.tick(1);
            }
            int kept = Math.min(calls, 5);
            for (int left = kept - 1; left >= 0; left--) {
                Check.due("undo after " + calls, x.undo(), left);
            }
            Check.due("one more undo after " + calls, x.undo(), NOT_POSSIBLE);
            Check.due("time then", x.tell(2), calls - kept);
        }
    }

    private static void undone(String call, ToIntFunction<OrganWind> change, ToIntFunction<OrganWind> told) {
        OrganWind x = Organs.rich();
        int before = told.applyAsInt(x);
        change.applyAsInt(x);
        Check.due(call + " changes it", told.applyAsInt(x) == before ? 0 : 1, 1);
        x.undo();
        Check.due("as ahead of " + call, told.applyAsInt(x), before);
    }

    private static void stateIsAllElse() {
        Check.sentence(HISTORY, "a state is all but the text, the history and the slots.");
        undone("layOut, manual", x -> x.layOut(0, 1, 4, 20), x -> x.stop(0, 0));
        undone("layOut, demand", x -> x.layOut(7, 1, 40, 20), x -> x.stop(7, 1));
        undone("layOut, least pressure", x -> x.layOut(7, 1, 4, 200), x -> x.stop(7, 2));
        undone("layOut, offsets", x -> x.layOut(2, 1, 9, 33), x -> x.pipe(2, 4, 1));
        undone("draw", x -> x.draw(7, true), x -> x.stop(7, 3));
        undone("retire", x -> x.draw(0, false), x -> x.stop(0, 3));
        undone("press on 0", x -> x.press(0, 4, true), x -> x.chest(0, 2));
        undone("release on 1", x -> x.press(1, 2, false), x -> x.chest(1, 2));
        undone("couple, manual", x -> x.couple(false, true), x -> x.chest(1, 2));
        undone("couple, octave", x -> x.couple(true, false), x -> x.chest(0, 2));
        undone("cipher", x -> x.cipher(2, 4, false), x -> x.tell(8));
        undone("tune", x -> x.tune(0, 3), x -> x.pipe(0, 3, 1));
        for (int setting = 0; setting < 9; setting++) {
            settingUndone(setting);
        }
        for (int what : new int[] {0, 2, 3, 4, 9}) {
            undone("tick, " + what, x -> x.tick(197), x -> x.tell(what));
        }
        for (int number = 0; number < 2; number++) {
            int of = number;
            undone("tick, stroke of " + of, x -> x.tick(9), x -> x.strokes(of));
            undone("tick, wind of " + of, x -> x.tick(9), x -> x.stop(of, 4));
        }
    }

    private static void settingUndone(int setting) {
        int[] values = {150, 90, 90, 1500, 15000, 15000, 450, 7, 30};
        OrganWind x = Organs.rich();
        int before = x.set(setting, values[setting]);
        x.undo();
        Check.due("setting " + setting + " undone", x.set(setting, values[setting]), before);
    }

    /** What of the stroke under way cannot be asked for shows in the ticks that follow. */
    private static void bellowsAreOfTheState() {
        Check.sentence(HISTORY, "a state is all but the text, the history and the slots.");
        OrganWind x = new OrganWind();
        x.set(6, 200);
        x.tick(1);
        x.set(6, 80);
        x.set(7, 8);
        x.tick(4);
        Check.due("a part of the other stroke", x.tell(3), 210);
        x.undo();
        Check.due("parts as they were", x.tick(1), 3100);
        Check.due("ticks as they were", x.tick(2), 3200);
        Check.due("nothing is left", x.tell(9), 0);
        x.tick(1);
        Check.due("feeder 1", x.strokes(1), 1);
        x.undo();
        x.tick(1);
        Check.due("feeder 1 again", x.strokes(1), 1);
        Check.due("not feeder 0", x.strokes(0), 1);
        x.set(4, 3200);
        x.tick(1);
        Check.due("spilled", x.tell(5), 20);
        x.undo();
        Check.due("not spilled", x.tell(5), 0);
    }

    private static void textHistoryAndSlotsAreNot() {
        Check.sentence(HISTORY, "a state is all but the text, the history and the slots.");
        OrganWind x = new OrganWind();
        x.append('d');
        x.save(0);
        x.tick(1);
        x.append('6');
        x.save(1);
        x.tick(1);
        Check.due("undo", x.undo(), 1);
        Check.due("undo", x.undo(), 0);
        Check.due("the text stays", x.play(), 1);
        Check.due("it is d6", x.stop(6, 3), 1);
        Check.due("slot 1 stays", x.restore(1), 1);
        Check.due("the text stays", x.clearText(), 2);
        Check.due("slot 0 stays", x.restore(0), 0);
        Check.due("the history stays", x.undo(), 2);
        Check.due("slot 1 keeps its state", x.restore(1), 1);
        Check.due("with stop 6 retired", x.stop(6, 3), 0);
        Check.due("and an empty text stays empty", x.clearText(), 0);
    }

    private static void recordedIfNothingChanges() {
        Check.sentence(HISTORY, "Each call of which it is said that it is recorded, and that reports no error, records the"
                + " state ahead of it (also if nothing becomes different);");
        OrganWind x = new OrganWind();
        Check.recorded("layOut as it is", x, 0, () -> x.layOut(3, 1, 10, 35));
        Check.recorded("set as it is", x, 0, () -> x.set(2, 10));
        Check.recorded("a cure of what does not cipher", x, 0, () -> x.cipher(0, 0, false));
        Check.recorded("retiring a stop that is not drawn", x, 0, () -> x.draw(0, false));
        Check.recorded("releasing a key that is not pressed", x, 0, () -> x.press(1, 1, false));
        Check.recorded("couple as it is", x, 0, () -> x.couple(false, false));
        Check.recorded("play of no acts", x, 0, () -> x.play());
        x.save(0);
        Check.recorded("restore of the same state", x, 0, () -> x.restore(0));
        x.draw(0, true);
        x.press(0, 23, true);
        x.cipher(0, 23, true);
        Check.recorded("tune of a pipe whose pitch is 0", x, 3, () -> x.tune(0, 23));
        Check.recorded("drawing a stop that is drawn", x, 3, () -> x.draw(0, true));
        Check.recorded("pressing a key that is pressed", x, 3, () -> x.press(0, 23, true));
        Check.recorded("ciphering of what ciphers", x, 3, () -> x.cipher(0, 23, true));
    }

    private static void stateAheadOfTheCall() {
        Check.sentence(HISTORY, "Each call of which it is said that it is recorded, and that reports no error, records the"
                + " state ahead of it (also if nothing becomes different);");
        OrganWind x = new OrganWind();
        x.draw(0, true);
        x.press(0, 0, true);
        x.save(1);
        x.append('d');
        x.append('7');
        Check.recorded("layOut", x, 2, () -> x.layOut(0, 1, 40, 0));
        Check.recorded("set", x, 2, () -> x.set(0, 200));
        Check.recorded("cipher", x, 2, () -> x.cipher(0, 1, true));
        Check.recorded("draw", x, 2, () -> x.draw(1, true));
        Check.recorded("press", x, 2, () -> x.press(0, 5, true));
        Check.recorded("couple", x, 2, () -> x.couple(true, true));
        Check.recorded("tick", x, 2, () -> x.tick(200));
        Check.recorded("play", x, 2, () -> x.play());
        x.set(1, 100);
        Check.recorded("tune", x, 3, () -> x.tune(0, 0));
        Check.recorded("restore", x, 3, () -> x.restore(1));
    }

    private static void onlyRecordedCalls() {
        Check.sentence(HISTORY, "Each call of which it is said that it is recorded, and that reports no error, records the"
                + " state ahead of it (also if nothing becomes different);");
        OrganWind x = new OrganWind();
        x.draw(7, true);
        x.stop(7, 4);
        x.append('d');
        x.clearText();
        x.faultPosition();
        x.tell(0);
        x.chest(0, 0);
        x.strokes(0);
        x.pipe(0, 0, 0);
        x.reason(7, 0);
        x.mistuned();
        x.search(2);
        x.robbed(6);
        x.lowest(1000);
        x.save(0);
        x.checksum();
        Check.due("draw alone is recorded", x.undo(), 0);
        Check.due("undo is not", x.undo(), NOT_POSSIBLE);
        Check.due("stop 7", x.stop(7, 3), 0);
    }

    private static void errorsAreNotRecorded() {
        Check.sentence(HISTORY, "Each call of which it is said that it is recorded, and that reports no error, records the"
                + " state ahead of it (also if nothing becomes different);");
        OrganWind x = new OrganWind();
        x.layOut(8, 0, 4, 20);
        x.layOut(0, 0, 41, 20);
        x.set(9, 0);
        x.set(0, 19);
        x.cipher(0, 24, true);
        x.draw(-1, true);
        x.press(2, 0, true);
        x.tick(0);
        x.tick(201);
        x.tune(0, 24);
        x.tune(0, 0);
        x.restore(0);
        x.restore(2);
        x.append('d');
        x.play();
        Check.due("nothing is recorded", x.undo(), NOT_POSSIBLE);
    }

    private static void oldestIsDropped() {
        Check.sentence(HISTORY, "when one more is recorded, the oldest is dropped.");
        OrganWind x = new OrganWind();
        for (int weight = 101; weight <= 106; weight++) {
            x.set(0, weight);
        }
        for (int weight = 105; weight >= 101; weight--) {
            x.undo();
            Check.due("weight", x.tell(1), weight);
        }
        Check.due("the first state is dropped", x.undo(), NOT_POSSIBLE);
        Check.due("weight stays", x.tell(1), 101);
        for (int weight = 111; weight <= 115; weight++) {
            x.set(0, weight);
        }
        Check.due("undo", x.undo(), 4);
        Check.due("undo", x.undo(), 3);
        x.set(0, 120);
        x.set(0, 121);
        Check.due("five again, none is dropped", x.undo(), 4);
        Check.due("weight", x.tell(1), 120);
        x.undo();
        Check.due("weight", x.tell(1), 113);
        Check.due("undo", x.undo(), 2);
        Check.due("undo", x.undo(), 1);
        Check.due("undo", x.undo(), 0);
        Check.due("the oldest", x.tell(1), 101);
    }
}
