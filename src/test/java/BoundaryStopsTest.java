/** The sentences of "Description", the paragraphs of stops and pipes, at their boundaries. */
public final class BoundaryStopsTest {
    private static final String STOPS = "Stops, pipes";
    private static final int BAD_INDEX = -1000001;
    private static final int BAD_VALUE = -1000002;
    private static final int NOT_POSSIBLE = -1000003;
    private static final int FULL = -1000004;
    private static final int NONE = -1000005;
    private static final int ALL_KEYS = 0xFFFFFF;

    public static void main(String[] args) {
        eightStops();
        twoManuals();
        twentyFourKeys();
        demandAndLeast();
        stopsAtFirst();
        needs();
        offsets();
        divisions();
        keysOfManual0();
        keysOfManual1();
        ciphers();
        openPipes();
        Check.end();
    }

    private static void eightStops() {
        Check.sentence(STOPS, "There are 8 stops, 0 to 7,");
        OrganWind x = new OrganWind();
        for (int stop : new int[] {0, 7}) {
            Check.due("robbed", x.robbed(stop), 0);
            Check.due("layOut", x.layOut(stop, 0, 5, 0), 4 + 2 * stop);
            Check.due("stop", x.stop(stop, 1), 5);
            Check.due("cipher", x.cipher(stop, 23, true), stop == 0 ? 1 : 2);
            Check.due("draw", x.draw(stop, true), stop == 0 ? 1 : 2);
            Check.due("pipe", x.pipe(stop, 23, 0), 5);
            Check.due("reason", x.reason(stop, 23), 0);
            Check.due("tune", x.tune(stop, 23), 0);
        }
        for (int stop : new int[] {-1, 8, Integer.MIN_VALUE, Integer.MAX_VALUE}) {
            Check.due("robbed", x.robbed(stop), BAD_INDEX);
            Check.due("layOut", x.layOut(stop, 0, 5, 0), BAD_INDEX);
            Check.due("stop", x.stop(stop, 1), BAD_INDEX);
            Check.due("cipher", x.cipher(stop, 23, true), BAD_INDEX);
            Check.due("draw", x.draw(stop, true), BAD_INDEX);
            Check.due("pipe", x.pipe(stop, 23, 0), BAD_INDEX);
            Check.due("reason", x.reason(stop, 23), BAD_INDEX);
            Check.due("tune", x.tune(stop, 23), BAD_INDEX);
        }
    }

    private static void twoManuals() {
        Check.sentence(STOPS, "and two manuals, 0 and 1,");
        OrganWind x = new OrganWind();
        for (int manual = 0; manual < 2; manual++) {
            Check.due("layOut", x.layOut(6, manual, 16, 50), 16);
            Check.due("stop", x.stop(6, 0), manual);
            Check.due("press", x.press(manual, 4 + manual, true), 1);
            Check.due("chest", x.chest(manual, 2), 16 << manual);
        }
        for (int manual : new int[] {-1, 2, Integer.MIN_VALUE, Integer.MAX_VALUE}) {
            Check.due("layOut", x.layOut(6, manual, 16, 50), BAD_VALUE);
            Check.due("press", x.press(manual, 4, true), BAD_INDEX);
            Check.due("chest", x.chest(manual, 2), BAD_INDEX);
        }
    }

    private static void twentyFourKeys() {
        Check.sentence(STOPS, "with 24 keys each, 0 to 23.");
        OrganWind x = new OrganWind();
        for (int key = 0; key < 24; key++) {
            Check.due("press on 0", x.press(0, key, true), key + 1);
            Check.due("press on 1", x.press(1, 23 - key, true), key + 1);
        }
        Check.due("keys of 0", x.chest(0, 2), ALL_KEYS);
        Check.due("keys of 1", x.chest(1, 2), ALL_KEYS);
        x.draw(3, true);
        for (int key : new int[] {0, 23}) {
            Check.due("cipher", x.cipher(3, key, true), key == 0 ? 1 : 2);
            Check.due("pipe", x.pipe(3, key, 1), 0);
            Check.due("reason", x.reason(3, key), 0);
            Check.due("tune", x.tune(3, key), 0);
        }
        for (int key : new int[] {-1, 24, Integer.MIN_VALUE, Integer.MAX_VALUE}) {
            Check.due("press on 0", x.press(0, key, true), BAD_INDEX);
            Check.due("press on 1", x.press(1, key, false), BAD_INDEX);
            Check.due("cipher", x.cipher(3, key, true), BAD_INDEX);
            Check.due("pipe", x.pipe(3, key, 1), BAD_INDEX);
            Check.due("reason", x.reason(3, key), BAD_INDEX);
            Check.due("tune", x.tune(3, key), BAD_INDEX);
        }
    }

    private static void demandAndLeast() {
        Check.sentence(STOPS, "A stop has a manual, a demand from 1 to 40, and a least pressure from 0 to 200;");
        OrganWind x = new OrganWind();
        Check.due("least demand", x.layOut(0, 0, 1, 0), 4);
        Check.due("its need", x.pipe(0, 23, 0), 1);
        Check.due("demand 0", x.layOut(0, 0, 0, 0), BAD_VALUE);
        Check.due("demand -1", x.layOut(0, 0, -1, 0), BAD_VALUE);
        Check.due("greatest demand", x.layOut(0, 0, 40, 0), 1);
        Check.due("its need", x.pipe(0, 0, 0), 45);
        Check.due("demand 41", x.layOut(0, 0, 41, 0), BAD_VALUE);
        Check.due("least pressure -1", x.layOut(0, 0, 40, -1), BAD_VALUE);
        Check.due("least pressure 0", x.stop(0, 2), 0);
        Check.due("least pressure 200", x.layOut(0, 0, 40, 200), 40);
        Check.due("is told", x.stop(0, 2), 200);
        Check.due("least pressure 201", x.layOut(0, 0, 40, 201), BAD_VALUE);
        x.draw(0, true);
        x.cipher(0, 23, true);
        x.set(1, 0);
        x.set(0, 200);
        Check.due("200 is reached", x.reason(0, 23), 0);
        x.set(0, 199);
        Check.due("199 is less", x.reason(0, 23), 3);
    }

    private static void stopsAtFirst() {
        Check.sentence(STOPS, "at first stop s has the manual s modulo 2, the demand 4 + 2 * s"
                + " and the least pressure 20 + 5 * s.");
        OrganWind x = new OrganWind();
        int[] manuals = {0, 1, 0, 1, 0, 1, 0, 1};
        int[] demands = {4, 6, 8, 10, 12, 14, 16, 18};
        int[] leasts = {20, 25, 30, 35, 40, 45, 50, 55};
        for (int stop = 0; stop < 8; stop++) {
            Check.due("manual of " + stop, x.stop(stop, 0), manuals[stop]);
            Check.due("demand of " + stop, x.stop(stop, 1), demands[stop]);
            Check.due("least pressure of " + stop, x.stop(stop, 2), leasts[stop]);
        }
    }

    private static void needs() {
        Check.sentence(STOPS, "It has a pipe for each key, with the need demand + (23 - key) / 4,");
        OrganWind x = new OrganWind();
        x.layOut(1, 0, 1, 0);
        x.layOut(6, 0, 40, 0);
        int[] lowestKeys = {20, 16, 12, 8, 4, 0};
        for (int more = 0; more < 6; more++) {
            for (int key = lowestKeys[more]; key < lowestKeys[more] + 4; key++) {
                Check.due("need of stop 0, key " + key, x.pipe(0, key, 0), 4 + more);
                Check.due("need of stop 1, key " + key, x.pipe(1, key, 0), 1 + more);
                Check.due("need of stop 6, key " + key, x.pipe(6, key, 0), 40 + more);
            }
        }
    }

    /** No offset falls below 0, as it is the pressure that a chest lacks that gives it; so only 200 is reached. */
    private static void offsets() {
        Check.sentence(STOPS, "and an offset from -200 to 200, at first 0.");
        OrganWind x = new OrganWind();
        for (int pipe = 0; pipe < 192; pipe++) {
            Check.due("offset at first", x.pipe(pipe / 24, pipe % 24, 1), 0);
        }
        x.set(0, 200);
        x.set(1, 100);
        x.set(8, 17);
        x.press(0, 23, true);
        for (int stop = 0; stop < 5; stop++) {
            x.layOut(stop, 0, stop < 4 ? 40 : 28, 0);
            x.draw(stop, true);
        }
        Check.due("188 are lacking", x.chest(0, 0), 12);
        Check.due("-188 * 17 / 16", x.pipe(0, 23, 4), -200);
        Check.due("200 is in the range", x.tune(0, 23), 0);
        Check.due("offset", x.pipe(0, 23, 1), 200);
        x.layOut(4, 0, 29, 0);
        Check.due("189 are lacking", x.chest(0, 0), 11);
        Check.due("-189 * 17 / 16", x.pipe(0, 23, 4), 200 - 201);
        Check.due("201 is not", x.tune(0, 23), NOT_POSSIBLE);
        Check.due("offset stays", x.pipe(0, 23, 1), 200);
        Check.due("nor for another pipe", x.tune(1, 23), NOT_POSSIBLE);
        Check.due("its offset stays", x.pipe(1, 23, 1), 0);
    }

    private static void divisions() {
        Check.sentence(STOPS, "All divisions here and below are rounded down"
                + " (towards the lower number, also below 0).");
        OrganWind x = Organs.holding(1999);
        Check.due("(23 - 20) / 4", x.pipe(0, 20, 0), 4);
        x.set(3, 2000);
        Check.due("80 * 1999 / 2000", x.tell(1), 79);
        x.set(3, 500);
        x.set(1, 11);
        Organs.sound(x, 0, 0, 9);
        Check.due("9 * 11 / 100", x.chest(0, 0), 80);
        x.layOut(0, 0, 18, 0);
        Check.due("18 * 11 / 100", x.chest(0, 0), 79);
        Check.due("18 * 79 / 80", x.pipe(0, 23, 2), 17);
        Check.due("-1 * 8 / 16", x.pipe(0, 23, 4), -1);
        x.set(8, 17);
        Check.due("-1 * 17 / 16", x.pipe(0, 23, 4), -2);
        x.draw(0, false);
        x.set(5, 4000);
        x.set(6, 500);
        x.set(7, 3);
        Check.due("500 / 3", x.tick(1), 1999 + 166);
    }

    private static void keysOfManual0() {
        Check.sentence(STOPS, "A key acts on manual 0 if it is pressed there, or if the octave coupler is on"
                + " and the key 12 less is pressed there.");
        OrganWind x = new OrganWind();
        for (int key = 0; key < 24; key++) {
            x.press(0, key, true);
            x.couple(true, false);
            Check.due("octave coupler off, key " + key, x.chest(0, 2), 1 << key);
            x.couple(false, true);
            int octave = key <= 11 ? 1 << key + 12 : 0;
            Check.due("octave coupler on, key " + key, x.chest(0, 2), 1 << key | octave);
            x.press(0, key, false);
        }
        x.couple(true, true);
        x.press(1, 5, true);
        Check.due("keys of manual 1 do not act here", x.chest(0, 2), 0);
        x.press(0, 3, true);
        x.press(0, 15, true);
        Check.due("pressed, and 12 more too", x.chest(0, 2), 1 << 3 | 1 << 15);
        x.press(0, 3, false);
        Check.due("pressed, and 12 less not", x.chest(0, 2), 1 << 15);
        x.draw(0, true);
        x.press(0, 11, true);
        Check.due("pipe 23 by key 11", x.reason(0, 23), 0);
        Check.due("pipe 3 not by key 15", x.reason(0, 3), 2);
    }

    private static void keysOfManual1() {
        Check.sentence(STOPS, "A key acts on manual 1 if it is pressed there, or if the manual coupler is on"
                + " and it acts on manual 0.");
        OrganWind x = new OrganWind();
        for (int key : new int[] {0, 11, 12, 23}) {
            x.press(1, key, true);
            x.couple(true, true);
            Check.due("both couplers on, key " + key, x.chest(1, 2), 1 << key);
            x.couple(false, false);
            Check.due("both couplers off, key " + key, x.chest(1, 2), 1 << key);
            x.press(1, key, false);
            x.press(0, key, true);
            Check.due("pressed on 0, couplers off", x.chest(1, 2), 0);
            x.couple(false, true);
            Check.due("pressed on 0, octave coupler on", x.chest(1, 2), 0);
            x.couple(true, false);
            Check.due("pressed on 0, manual coupler on", x.chest(1, 2), 1 << key);
            x.couple(true, true);
            int octave = key <= 11 ? 1 << key + 12 : 0;
            Check.due("pressed on 0, both couplers on", x.chest(1, 2), 1 << key | octave);
            x.press(0, key, false);
        }
        x.press(0, 6, true);
        x.press(1, 6, true);
        x.press(1, 7, true);
        Check.due("pressed on both", x.chest(1, 2), 1 << 6 | 1 << 7 | 1 << 18);
    }

    private static void ciphers() {
        Check.sentence(STOPS, "At most 6 pipes cipher.");
        OrganWind x = new OrganWind();
        for (int i = 1; i <= 6; i++) {
            Check.due("cipher " + i, x.cipher(i, 4 * i - 1, true), i);
        }
        Check.due("a seventh one", x.cipher(7, 0, true), FULL);
        Check.due("six cipher", x.tell(8), 6);
        x.draw(7, true);
        Check.due("the seventh does not", x.reason(7, 0), 2);
        Check.due("a seventh one of the same stop", x.cipher(1, 4, true), FULL);
        Check.due("five", x.cipher(6, 23, false), 5);
        Check.due("another sixth one", x.cipher(7, 0, true), 6);
        Check.due("it ciphers", x.reason(7, 0), 0);
    }

    private static void openPipes() {
        Check.sentence(STOPS, "A pipe is open if its stop is drawn, and if then its key acts on the manual of its stop,"
                + " or it ciphers, or both (with a stop that is not drawn none is open).");
        OrganWind x = new OrganWind();
        x.press(0, 20, true);
        x.press(0, 21, true);
        x.cipher(0, 21, true);
        x.cipher(0, 22, true);
        Check.due("none is open", x.tell(6), 0);
        Check.due("none has a need", x.chest(0, 1), 0);
        for (int key = 20; key < 24; key++) {
            Check.due("not open", x.pipe(0, key, 2), NONE);
        }
        x.draw(1, true);
        Check.due("none of another manual", x.tell(6), 0);
        x.draw(0, true);
        Check.due("three are open", x.tell(6), 3);
        Check.due("each has its need once", x.chest(0, 1), 12);
        Check.due("by its key", x.pipe(0, 20, 2), 4 * 79 / 80);
        Check.due("by both", x.pipe(0, 21, 2), 3);
        Check.due("by its cipher", x.pipe(0, 22, 2), 3);
        Check.due("by neither", x.pipe(0, 23, 2), NONE);
        x.layOut(0, 1, 4, 20);
        Check.due("on the other manual, ciphers alone", x.tell(6), 2);
        everyPipe();
    }

    private static void everyPipe() {
        OrganWind x = new OrganWind();
        for (int key = 0; key < 24; key++) {
            x.press(0, key, true);
        }
        for (int stop = 0; stop < 8; stop++) {
            x.draw(stop, true);
        }
        Check.due("those of manual 0", x.tell(6), 96);
        x.couple(true, false);
        Check.due("all pipes are open", x.tell(6), 192);
    }
}
