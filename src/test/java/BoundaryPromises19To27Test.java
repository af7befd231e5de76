import java.util.function.Supplier;

/** The sentences of promises 19 to 27 at their boundaries. */
public final class BoundaryPromises19To27Test {
    private static final int BAD_INDEX = -1000001;
    private static final int BAD_VALUE = -1000002;
    private static final int NOT_POSSIBLE = -1000003;
    private static final int NONE = -1000005;
    private static final int[] OUTSIDE = {-1, Integer.MIN_VALUE, Integer.MAX_VALUE};

    public static void main(String[] args) {
        tune();
        tuneReturns();
        mistuned();
        search();
        searchReturns();
        robbed();
        robbedReturns();
        lowest();
        lowestAtTheEndOfATick();
        undo();
        save();
        restore();
        checksumOfAll();
        checksumAtEdges();
        Check.end();
    }

    private static void tune() {
        OrganWind x = new OrganWind();
        x.set(1, 100);
        x.set(8, 17);
        x.layOut(0, 0, 2, 20);
        x.press(0, 23, true);
        x.press(0, 0, true);
        x.draw(0, true);
        Check.sentence("Promise 19", "Tunes a pipe: its offset becomes the one with which its pitch is 0 now.");
        Check.due("pitch, 9 lacking", x.pipe(0, 0, 4), -10);
        x.tune(0, 0);
        Check.due("pitch", x.pipe(0, 0, 4), 0);
        Check.due("offset", x.pipe(0, 0, 1), 10);
        Check.due("the other pipes stay", x.pipe(0, 23, 4) + x.pipe(0, 12, 1), -10);
        x.press(0, 12, true);
        Check.due("pitch, 13 lacking", x.pipe(0, 0, 4), 10 - 14);
        x.tune(0, 0);
        Check.due("offset", x.pipe(0, 0, 1), 14);
        x.press(0, 12, false);
        Check.due("pitch, 9 lacking", x.pipe(0, 0, 4), 4);
        x.tune(0, 0);
        Check.due("offset", x.pipe(0, 0, 1), 10);
        x.set(8, 0);
        x.tune(0, 0);
        Check.due("offset 0 again", x.pipe(0, 0, 1), 0);
        Check.sentence("Promise 19", "- `stop`: 0 to 7");
        Organs.sound(x, 7, 1, 1);
        Check.due("-1", x.tune(-1, 23), BAD_INDEX);
        Check.due("0", x.tune(0, 23), 0);
        Check.due("7", x.tune(7, 23), 0);
        Check.due("8", x.tune(8, 23), BAD_INDEX);
        Check.sentence("Promise 19", "- `key`: 0 to 23");
        Check.due("-1", x.tune(0, -1), BAD_INDEX);
        Check.due("0", x.tune(0, 0), 0);
        Check.due("23", x.tune(0, 23), 0);
        Check.due("24", x.tune(0, 24), BAD_INDEX);
        Check.sentence("Promise 19", "Recorded.");
        OrganWind y = new OrganWind();
        Organs.sound(y, 0, 0, 40);
        Check.recorded("tune", y, 3, () -> y.tune(0, 23));
        Check.due("the offset is 0 again", y.tune(0, 23), 0);
        y.undo();
        y.tune(0, 22);
        y.tune(0, 24);
        Check.due("errors are not", y.undo(), 2);
    }

    private static void tuneReturns() {
        Check.sentence("Promise 19", "Returns its previous offset; BAD_INDEX; NOT_POSSIBLE if it does not speak, or the"
                + " offset would be out of its range.");
        OrganWind x = new OrganWind();
        for (int bad : OUTSIDE) {
            Check.due("stop", x.tune(bad, 0), BAD_INDEX);
            Check.due("key", x.tune(0, bad), BAD_INDEX);
        }
        Check.due("not drawn", x.tune(0, 23), NOT_POSSIBLE);
        x.draw(0, true);
        Check.due("no key", x.tune(0, 23), NOT_POSSIBLE);
        x.layOut(0, 0, 10, 80);
        x.cipher(0, 23, true);
        Check.due("too little pressure", x.tune(0, 23), NOT_POSSIBLE);
        x.layOut(0, 0, 10, 79);
        Check.due("its least pressure", x.tune(0, 23), 0);
        Check.due("previous offset", x.tune(0, 23), 1);
        OrganWind y = Organs.scarce();
        Organs.sound(y, 0, 0, 40);
        Organs.sound(y, 1, 0, 40);
        Organs.sound(y, 2, 0, 30);
        Organs.sound(y, 3, 0, 9);
        Check.due("gets one less", y.tune(2, 23), NOT_POSSIBLE);
        Check.due("asks for 0", y.tune(3, 23), NOT_POSSIBLE);
        y.set(8, 17);
        y.layOut(2, 0, 20, 0);
        Check.due("180 * 17 / 16", y.pipe(2, 23, 4), -192);
        Check.due("gets what it asks for", y.tune(2, 23), 0);
        y.set(8, 18);
        Check.due("180 * 18 / 16 is out of the range", y.tune(2, 23), NOT_POSSIBLE);
        Check.due("the offset stays", y.pipe(2, 23, 1), 192);
    }

    private static void mistuned() {
        Check.sentence("Promise 20", "Returns the greatest difference of the pitches of two pipes that speak (0 with one);"
                + " NONE if none speaks.");
        OrganWind x = new OrganWind();
        Check.due("no pipe is open", x.mistuned(), NONE);
        x.set(1, 100);
        x.set(8, 16);
        x.layOut(0, 0, 10, 71);
        x.draw(0, true);
        x.press(0, 23, true);
        Check.due("one is open and does not speak", x.mistuned(), NONE);
        x.layOut(0, 0, 10, 70);
        Check.due("one speaks", x.mistuned(), 0);
        Check.due("though its pitch is not 0", x.pipe(0, 23, 4), -10);
        Organs.sound(x, 7, 1, 9);
        Check.due("-10 and 0", x.mistuned(), 10);
        x.tune(0, 23);
        Check.due("0 and 0", x.mistuned(), 0);
        x.press(0, 22, true);
        x.layOut(0, 0, 10, 60);
        x.tune(0, 22);
        Check.due("of one chest: -20 and 0", x.mistuned(), 20);
        x.layOut(7, 1, 9, 81);
        Check.due("without the one that does not speak", x.mistuned(), 20);
        x.press(0, 22, false);
        Check.due("one speaks", x.mistuned(), 0);
        x.press(0, 22, true);
        x.set(8, 0);
        Check.due("0 and 20", x.pipe(0, 22, 4) - x.pipe(0, 23, 4), 20);
        Check.due("the greater one comes first by its key", x.mistuned(), 20);
        Check.due("nothing is recorded", x.undo(), 4);
        OrganWind y = new OrganWind();
        y.draw(0, true);
        y.draw(7, true);
        y.press(0, 0, true);
        y.press(0, 12, true);
        y.press(0, 23, true);
        y.press(1, 12, true);
        y.set(1, 100);
        y.tune(0, 0);
        Check.due("the first key of the first stop: 0 and -10", y.mistuned(), 10);
        y.tune(0, 12);
        y.tune(0, 23);
        Check.due("0 and -1", y.mistuned(), 1);
        y.set(2, 100);
        Check.due("the last stop: 0 and -10", y.mistuned(), 10);
        y.layOut(0, 0, 4, 100);
        Check.due("alone", y.mistuned(), 0);
        y.press(1, 23, true);
        y.press(1, 0, true);
        y.set(2, 10);
        y.tune(7, 23);
        Check.due("its last key: 0 and -3", y.mistuned(), 3);
    }

    private static void search() {
        OrganWind x = new OrganWind();
        x.cipher(5, 23, true);
        x.cipher(5, 0, true);
        x.cipher(6, 1, true);
        Check.sentence("Promise 21", "Searches for ciphers by tests.");
        Check.due("stop 5", x.search(0), 5);
        x.layOut(5, 1, 14, 80);
        Check.due("what a test does not hear is not found", x.search(0), 6);
        x.layOut(5, 1, 14, 45);
        Check.sentence("Promise 21", "- `what`: 0 for the stop that is found (NONE if the test of all stops hears nothing),"
                + " 1 for the number of tests that are made, 2 for the lowest key of a pipe of this stop that ciphers"
                + " (NONE if no stop is found, or no pipe of it ciphers)");
        Check.due("stop", x.search(0), 5);
        Check.due("tests", x.search(1), 4);
        Check.due("lowest key is 0", x.search(2), 0);
        x.cipher(5, 0, false);
        Check.due("lowest key is 23", x.search(2), 23);
        x.set(1, 100);
        x.set(2, 100);
        x.layOut(5, 1, 40, 41);
        x.layOut(6, 0, 40, 41);
        Check.due("nothing is heard", x.search(0), NONE);
        Check.due("one test", x.search(1), 1);
        Check.due("no key", x.search(2), NONE);
        OrganWind y = Organs.heardOnlyWithAll();
        Check.due("stop 7", y.search(0), 7);
        Check.due("no pipe of it ciphers", y.search(2), NONE);
    }

    private static void searchReturns() {
        Check.sentence("Promise 21", "Returns this number; BAD_INDEX.");
        OrganWind x = new OrganWind();
        Check.due("-1", x.search(-1), BAD_INDEX);
        Check.due("0", x.search(0), NONE);
        Check.due("1", x.search(1), 1);
        Check.due("2", x.search(2), NONE);
        Check.due("3", x.search(3), BAD_INDEX);
        for (int bad : OUTSIDE) {
            Check.due("bad", x.search(bad), BAD_INDEX);
        }
        x.draw(0, true);
        x.press(0, 0, true);
        x.cipher(6, 0, true);
        long before = x.checksum();
        x.search(0);
        x.search(1);
        x.search(2);
        Check.due("nothing is changed", x.checksum(), before);
        Check.due("nor recorded", x.undo(), 2);
    }

    private static void robbed() {
        Check.sentence("Promise 22", "Tells how many pipes that speak now would not speak if one more stop were drawn.");
        OrganWind x = new OrganWind();
        x.layOut(0, 0, 9, 79);
        x.layOut(2, 0, 2, 0);
        x.draw(0, true);
        x.press(0, 23, true);
        Check.due("11 of need leave 79", x.robbed(2), 0);
        x.layOut(2, 0, 11, 0);
        Check.due("20 leave 78", x.robbed(2), 1);
        x.press(0, 22, true);
        x.layOut(0, 0, 9, 78);
        x.layOut(2, 0, 5, 0);
        Check.due("28 leave 78", x.robbed(2), 0);
        x.layOut(2, 0, 6, 0);
        Check.due("30 leave 77: both are robbed", x.robbed(2), 2);
        Check.due("a stop of the other manual robs none", x.robbed(1), 0);
        x.layOut(0, 0, 9, 80);
        Check.due("none speaks now", x.robbed(2), 0);
        OrganWind y = Organs.scarce();
        Organs.sound(y, 2, 0, 40);
        Organs.sound(y, 3, 1, 40);
        Organs.sound(y, 0, 0, 20);
        y.draw(0, false);
        Check.due("both speak", y.tell(7), 2);
        Check.due("2, 4 and 4 are there", y.robbed(0), 0);
        y.layOut(0, 0, 30, 0);
        Check.due("3, 4 and 4 are not: stop 3 of the other manual is robbed", y.robbed(0), 1);
        y.layOut(7, 0, 40, 0);
        y.cipher(7, 23, true);
        Check.due("a later stop robs none, and its own pipes are not counted", y.robbed(7), 0);
        Check.due("nothing is changed", y.stop(7, 3), 0);
        OrganWind z = Organs.heardOnlyWithAll();
        z.draw(0, true);
        z.draw(1, true);
        Check.due("stop 1 does not speak now", z.reason(1, 2), 4);
        Check.due("that it would speak with stop 4 is not counted", z.robbed(4), 0);
        z.draw(4, true);
        Check.due("though it does", z.reason(1, 2), 0);
    }

    private static void robbedReturns() {
        OrganWind x = new OrganWind();
        x.draw(3, true);
        Check.sentence("Promise 22", "- `stop`: 0 to 7");
        Check.due("-1", x.robbed(-1), BAD_INDEX);
        Check.due("0", x.robbed(0), 0);
        Check.due("7", x.robbed(7), 0);
        Check.due("8", x.robbed(8), BAD_INDEX);
        Check.sentence("Promise 22", "Returns this number; BAD_INDEX; NOT_POSSIBLE if it is drawn.");
        Check.due("drawn", x.robbed(3), NOT_POSSIBLE);
        x.draw(3, false);
        Check.due("retired", x.robbed(3), 0);
        for (int bad : OUTSIDE) {
            Check.due("bad", x.robbed(bad), BAD_INDEX);
        }
        x.set(2, 100);
        x.draw(3, true);
        for (int key = 0; key < 24; key++) {
            x.press(1, key, true);
        }
        x.layOut(3, 1, 1, 0);
        x.layOut(5, 1, 40, 0);
        x.set(0, 200);
        Check.due("20 speak, as 1 * 116 / 200 is 0", x.tell(7), 20);
        Check.due("all of them are robbed", x.robbed(5), 20);
        x.set(2, 10);
        Check.due("20 speak, as 1 * 192 / 200 is 0", x.tell(7), 20);
        Check.due("four are robbed, as 2 * 90 / 200 is 0", x.robbed(5), 4);
        Check.due("robbed is not recorded", x.undo(), 4);
    }

    private static void lowest() {
        Check.sentence("Promise 23", "Forecasts the lowest V in some ticks, if nothing but tick() is called.");
        OrganWind x = new OrganWind();
        x.set(5, 2950);
        x.draw(0, true);
        x.press(0, 0, true);
        Check.due("3000 - 5 * 9", x.lowest(5), 2955);
        Check.due("3000 - 6 * 9", x.lowest(6), 2946);
        Check.due("then it rises", x.lowest(7), 2946);
        Check.due("until 3030", x.lowest(10), 2946);
        Check.due("then it falls to 2949, and rises to 3033", x.lowest(23), 2946);
        Check.due("then it falls to 2943", x.lowest(33), 2943);
        Check.due("the ticks do as it was forecast", x.tick(33), 2943);
        Check.due("nothing else is changed", x.strokes(0) + x.strokes(1), 2);
        Check.sentence("Promise 23", "- `ticks`: 1 to 1000");
        OrganWind y = new OrganWind();
        y.set(5, 0);
        Organs.sound(y, 0, 0, 1);
        Check.due("-1", y.lowest(-1), BAD_VALUE);
        Check.due("0", y.lowest(0), BAD_VALUE);
        Check.due("1", y.lowest(1), 2999);
        Check.due("200", y.lowest(200), 2800);
        Check.due("201", y.lowest(201), 2799);
        Check.due("999", y.lowest(999), 2001);
        Check.due("1000", y.lowest(1000), 2000);
        Check.due("1001", y.lowest(1001), BAD_VALUE);
        Check.due("no wind was got", y.tell(4), 0);
        Check.due("no time has passed", y.tell(2), 0);
        Check.due("lowest is not recorded", y.undo(), 3);
    }

    private static void lowestAtTheEndOfATick() {
        Check.sentence("Promise 23", "Returns the lowest V at the end of a tick; BAD_VALUE.");
        OrganWind x = new OrganWind();
        Check.due("more than V is now", x.lowest(1), 3030);
        Check.due("and not the last one", x.lowest(1000), 3030);
        Organs.sound(x, 0, 0, 9);
        Check.due("behind the flows", x.lowest(1), 3021);
        OrganWind y = Organs.holding(10);
        y.set(3, 100);
        y.set(1, 0);
        Organs.sound(y, 0, 0, 40);
        Check.due("40 * 8 / 80", y.lowest(1), 6);
        Check.due("40 * 4 / 80 more", y.lowest(2), 4);
        Check.due("40 * 3 / 80, 40 * 2 / 80 and no more", y.lowest(1000), 2);
        for (int bad : OUTSIDE) {
            Check.due("bad", x.lowest(bad), BAD_VALUE);
        }
    }

    private static void undo() {
        Check.sentence("Promise 24", "Takes the latest state out of the history and makes it the state.");
        OrganWind x = new OrganWind();
        x.set(0, 101);
        x.set(0, 102);
        x.undo();
        Check.due("the latest", x.tell(1), 101);
        x.undo();
        Check.due("the one ahead of it", x.tell(1), 80);
        OrganWind rich = Organs.rich();
        rich.restore(0);
        rich.undo();
        sameNow(rich, Organs.rich());
        x.set(0, 103);
        x.undo();
        Check.due("what was taken out is gone", x.undo(), NOT_POSSIBLE);
        Check.sentence("Promise 24", "Returns the number of states that are left in the history; NOT_POSSIBLE if it is"
                + " empty.");
        Check.due("empty", x.undo(), NOT_POSSIBLE);
        Check.due("empty still", x.undo(), NOT_POSSIBLE);
        x.tick(1);
        Check.due("one", x.undo(), 0);
        for (int i = 0; i < 6; i++) {
            x.tick(1);
        }
        for (int left = 4; left >= 0; left--) {
            Check.due("left", x.undo(), left);
        }
        Check.due("empty", x.undo(), NOT_POSSIBLE);
        Check.due("time", x.tell(2), 1);
    }

    private static void save() {
        OrganWind x = new OrganWind();
        Check.sentence("Promise 25", "- `slot`: 0 or 1");
        Check.due("-1", x.save(-1), BAD_INDEX);
        Check.due("0", x.save(0), 0);
        Check.due("1", x.save(1), 0);
        Check.due("2", x.save(2), BAD_INDEX);
        Check.sentence("Promise 25", "Saves the state, in place of what the slot keeps.");
        x.tick(5);
        x.save(0);
        x.tick(1);
        Check.due("slot 0", x.restore(0), 5);
        Check.due("slot 1 keeps its own", x.restore(1), 0);
        Check.sentence("Promise 25", "Returns the time; BAD_INDEX.");
        x.tick(9);
        Check.due("time", x.save(1), 9);
        for (int bad : OUTSIDE) {
            Check.due("bad", x.save(bad), BAD_INDEX);
        }
        x.undo();
        Check.due("save is not recorded", x.tell(2), 0);
        Check.due("time of slot 1", x.restore(1), 9);
    }

    private static void restore() {
        OrganWind x = new OrganWind();
        x.tick(3);
        Check.sentence("Promise 26", "- `slot`: 0 or 1");
        x.save(0);
        x.tick(1);
        x.save(1);
        Check.due("-1", x.restore(-1), BAD_INDEX);
        Check.due("0", x.restore(0), 3);
        Check.due("1", x.restore(1), 4);
        Check.due("2", x.restore(2), BAD_INDEX);
        Check.sentence("Promise 26", "Makes the state as it was saved.");
        OrganWind rich = Organs.rich();
        rich.save(1);
        Organs.change(rich);
        long changed = rich.checksum();
        rich.restore(1);
        sameNow(rich, Organs.rich());
        Check.sentence("Promise 26", "The slot keeps it.");
        rich = Organs.rich();
        rich.save(1);
        rich.restore(1);
        Organs.change(rich);
        Check.due("all is changed again", rich.checksum(), changed);
        rich.restore(1);
        rich.undo();
        Check.due("all is changed still", rich.checksum(), changed);
        rich.restore(1);
        sameNow(rich, Organs.rich());
        Check.sentence("Promise 26", "Recorded.");
        OrganWind y = new OrganWind();
        y.save(0);
        y.tick(9);
        Check.recorded("restore", y, 1, () -> y.restore(0));
        y.restore(1);
        y.restore(2);
        Check.due("errors are not", y.undo(), 0);
        Check.sentence("Promise 26", "Returns the time then; BAD_INDEX; NOT_POSSIBLE if nothing has been saved in the"
                + " slot.");
        OrganWind z = new OrganWind();
        z.tick(7);
        Check.due("nothing in 0", z.restore(0), NOT_POSSIBLE);
        z.save(1);
        z.tick(1);
        Check.due("nothing in 0 still", z.restore(0), NOT_POSSIBLE);
        Check.due("time then", z.restore(1), 7);
        Check.due("time", z.tell(2), 7);
        for (int bad : OUTSIDE) {
            Check.due("bad", z.restore(bad), BAD_INDEX);
        }
    }

    /** That two organs are alike, their text, history and slots aside. */
    private static void sameNow(OrganWind x, OrganWind y) {
        Check.due("checksum", x.checksum(), y.checksum());
        for (int pipe = 0; pipe < 192; pipe++) {
            Check.due("offset " + pipe, x.pipe(pipe / 24, pipe % 24, 1), y.pipe(pipe / 24, pipe % 24, 1));
        }
        for (int ticks = 1; ticks < 9; ticks++) {
            Check.due("ticks", x.tick(1), y.tick(1));
            Check.due("strokes of 0", x.strokes(0), y.strokes(0));
            Check.due("left of the stroke", x.tell(9), y.tell(9));
        }
        Check.due("couplers", x.couple(true, true), y.couple(true, true));
        for (int i = 0; i < 2; i++) {
            Check.due("keys pressed", x.press(i, 0, true), y.press(i, 0, true));
        }
    }

    private static void checksumOfAll() {
        Check.sentence("Promise 27", "Computes a checksum. It starts with h = 151; for each of the following values, in"
                + " this order, h becomes 31 * h + value (as longs, with overflow): for each stop stop() of 0 to 4; the"
                + " settings 0 to 8; tell() of 0 to 9; for both manuals chest() of 0 to 2; strokes() of 0 and 1; for each"
                + " stop, and each key of it, whose pipe is open: 100 * stop + key, and pipe() of 0 to 4 and reason();"
                + " mistuned(); search(0), search(1).");
        int[] first = {80, 10, 10, 500, 6000, 4000, 120, 4, 8};
        int[] most = {200, 100, 100, 2000, 20000, 20000, 500, 8, 32};
        int[] least = {20, 0, 0, 100, 1000, 0, 10, 1, 0};
        checksumIs("of a new one", OrganWind::new, first);
        checksumIs("of the first and the last pipe", () -> firstAndLastPipe(first), first);
        checksumIs("with the most of all settings", () -> firstAndLastPipe(most), most);
        checksumIs("with the least of all settings", () -> firstAndLastPipe(least), least);
    }

    private static void checksumIs(String told, Supplier<OrganWind> organ, int[] settings) {
        Check.due(told, organ.get().checksum(), Checksum.of(organ, settings));
    }

    private static OrganWind firstAndLastPipe(int[] settings) {
        OrganWind x = new OrganWind();
        x.layOut(0, 0, 40, 0);
        x.draw(0, true);
        x.cipher(0, 0, true);
        x.layOut(7, 1, 39, 0);
        x.draw(7, true);
        x.cipher(7, 23, true);
        x.tick(2);
        for (int setting = 0; setting < 9; setting++) {
            x.set(setting, settings[setting]);
        }
        x.tick(6);
        return x;
    }

    private static void checksumAtEdges() {
        Check.sentence("Promise 27", "Returns the checksum.");
        int[] settings = {80, 0, 100, 500, 6000, 4000, 120, 4, 32};
        checksumIs("of all pipes, half of them without pressure", () -> allPipes(), settings);
        checksumIs("of all pipes, with little left", () -> allPipesAfterTicks(), settings);
        int[] scarceSettings = {200, 0, 0, 100, 6000, 0, 120, 4, 8};
        checksumIs("of pipes that get too little", () -> tooLittle(), scarceSettings);
        OrganWind x = allPipesAfterTicks();
        Check.due("it changes nothing", x.checksum(), x.checksum());
        Check.due("nor is it recorded", x.undo(), 4);
        valueByValue();
    }

    private static OrganWind allPipes() {
        OrganWind x = new OrganWind();
        for (int key = 0; key < 24; key++) {
            x.press(0, key, true);
        }
        for (int stop = 0; stop < 8; stop++) {
            x.draw(stop, true);
        }
        x.couple(true, false);
        x.set(1, 0);
        x.set(2, 100);
        x.set(8, 32);
        return x;
    }

    private static OrganWind tooLittle() {
        OrganWind x = Organs.scarce();
        for (int stop = 0; stop < 4; stop++) {
            Organs.sound(x, stop, 0, 40);
        }
        Check.due("the third gets 2", x.pipe(2, 23, 3), 2);
        return x;
    }

    private static OrganWind allPipesAfterTicks() {
        OrganWind x = allPipes();
        x.tick(200);
        return x;
    }

    private static void valueByValue() {
        OrganWind y = new OrganWind();
        long h = 151;
        int[] stops = {0, 4, 20, 1, 6, 25, 0, 8, 30, 1, 10, 35, 0, 12, 40, 1, 14, 45, 0, 16, 50, 1, 18, 55};
        for (int i = 0; i < 24; i++) {
            h = 31 * h + stops[i];
            h = i % 3 == 2 ? 31 * 31 * h : h;
        }
        int[] others = {80, 10, 10, 500, 6000, 4000, 120, 4, 8, 3000, 80, 0, 0, 0, 0, 0, 0, 0, 0, 80, 0, 0, 80, 0, 0,
            0, 0, NONE, NONE, 1};
        for (int value : others) {
            h = 31 * h + value;
        }
        Check.due("of a new one, value by value", y.checksum(), h);
    }
}
