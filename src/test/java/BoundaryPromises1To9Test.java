/** The sentences of promises 1 to 9 at their boundaries. */
public final class BoundaryPromises1To9Test {
    private static final int BAD_INDEX = -1000001;
    private static final int BAD_VALUE = -1000002;
    private static final int NOT_POSSIBLE = -1000003;
    private static final int FULL = -1000004;
    private static final int[] OUTSIDE = {-1, Integer.MIN_VALUE, Integer.MAX_VALUE};

    public static void main(String[] args) {
        newObject();
        layOut();
        layOutKeeps();
        layOutArguments();
        stop();
        set();
        cipher();
        cipherArguments();
        draw();
        press();
        pressArguments();
        couple();
        tick();
        Check.end();
    }

    private static void newObject() {
        Check.sentence("Promise 1", "Creates an organ with everything as at first: no stop is drawn, no key is pressed,"
                + " couplers are off, nothing ciphers, the time and all counts are 0, no stroke is under way;"
                + " the text, the history and the slots are empty.");
        OrganWind x = new OrganWind();
        Check.due("history", x.undo(), NOT_POSSIBLE);
        Check.due("slot 0", x.restore(0), NOT_POSSIBLE);
        Check.due("slot 1", x.restore(1), NOT_POSSIBLE);
        Check.due("text", x.clearText(), 0);
        for (int what = 2; what <= 9; what++) {
            Check.due("count " + what, x.tell(what), 0);
        }
        for (int stop = 0; stop < 8; stop++) {
            Check.due("drawn", x.stop(stop, 3), 0);
            Check.due("wind", x.stop(stop, 4), 0);
            Check.due("stops drawn then", x.draw(stop, true), stop + 1);
        }
        for (int i = 0; i < 2; i++) {
            Check.due("strokes", x.strokes(i), 0);
            Check.due("keys", x.chest(i, 2), 0);
            Check.due("keys pressed then", x.press(i, 0, true), 1);
        }
        Check.due("pipes open by two keys, with no coupler and no cipher", x.tell(6), 8);
        Check.due("couplers", x.couple(false, false), 0);
        Check.due("ciphers", x.cipher(0, 0, true), 1);
        Check.due("all of another object is as at first", new OrganWind().tell(6), 0);
    }

    private static void layOut() {
        Check.sentence("Promise 2", "Lays out a stop anew; the offsets of its pipes become 0.");
        OrganWind x = new OrganWind();
        x.draw(0, true);
        x.draw(2, true);
        int[] keys = {0, 12, 23};
        for (int key : keys) {
            x.press(0, key, true);
        }
        for (int key : keys) {
            Check.due("tune stop 0", x.tune(0, key), 0);
            Check.due("tune stop 2", x.tune(2, key), 0);
        }
        Check.due("an offset", x.pipe(0, 0, 1), 3);
        Check.due("as it was laid out before", x.layOut(0, 0, 4, 20), 4);
        for (int key : keys) {
            Check.due("offset of stop 0", x.pipe(0, key, 1), 0);
            Check.due("offset of stop 2", x.pipe(2, key, 1), 3);
        }
        Check.due("anew", x.layOut(0, 1, 40, 200), 4);
        Check.due("manual", x.stop(0, 0), 1);
        Check.due("demand", x.stop(0, 1), 40);
        Check.due("least pressure", x.stop(0, 2), 200);
        Check.due("stop 1 stays", x.stop(1, 1), 6);
    }

    private static void layOutKeeps() {
        Check.sentence("Promise 2", "(Whether it is drawn, which of its pipes cipher, and the wind that they have got"
                + " stay.)");
        OrganWind x = new OrganWind();
        x.draw(3, true);
        x.cipher(3, 0, true);
        x.cipher(3, 23, true);
        x.cipher(5, 1, true);
        x.tick(2);
        Check.due("wind", x.stop(3, 4), 2 * (14 + 9));
        x.layOut(3, 0, 1, 0);
        x.layOut(5, 0, 1, 0);
        Check.due("is drawn", x.stop(3, 3), 1);
        Check.due("is not drawn", x.stop(5, 3), 0);
        Check.due("wind stays", x.stop(3, 4), 46);
        Check.due("ciphers stay", x.tell(8), 3);
        Check.due("cipher 0", x.reason(3, 0), 0);
        Check.due("cipher 23", x.reason(3, 23), 0);
        Check.due("no cipher", x.reason(3, 1), 2);
    }

    private static void layOutArguments() {
        OrganWind x = new OrganWind();
        Check.sentence("Promise 2", "- `stop`: 0 to 7");
        Check.due("-1", x.layOut(-1, 0, 1, 0), BAD_INDEX);
        Check.due("0", x.layOut(0, 0, 4, 20), 4);
        Check.due("7", x.layOut(7, 1, 18, 55), 18);
        Check.due("8", x.layOut(8, 0, 1, 0), BAD_INDEX);
        Check.sentence("Promise 2", "- `manual`: 0 or 1");
        Check.due("-1", x.layOut(0, -1, 4, 20), BAD_VALUE);
        Check.due("0", x.layOut(0, 0, 4, 20), 4);
        Check.due("1", x.layOut(0, 1, 4, 20), 4);
        Check.due("2", x.layOut(0, 2, 4, 20), BAD_VALUE);
        Check.sentence("Promise 2", "- `demand`: 1 to 40");
        Check.due("0", x.layOut(0, 0, 0, 20), BAD_VALUE);
        Check.due("1", x.layOut(0, 0, 1, 20), 4);
        Check.due("40", x.layOut(0, 0, 40, 20), 1);
        Check.due("41", x.layOut(0, 0, 41, 20), BAD_VALUE);
        Check.sentence("Promise 2", "- `least`: its least pressure, 0 to 200");
        Check.due("-1", x.layOut(0, 0, 4, -1), BAD_VALUE);
        Check.due("0", x.layOut(0, 0, 4, 0), 40);
        Check.due("200", x.layOut(0, 0, 5, 200), 4);
        Check.due("201", x.layOut(0, 0, 4, 201), BAD_VALUE);
        Check.sentence("Promise 2", "Returns its previous demand; BAD_INDEX; BAD_VALUE (for the three others).");
        Check.due("previous demand", x.layOut(0, 0, 6, 0), 5);
        Check.due("of this stop", x.layOut(1, 0, 7, 0), 6);
        for (int bad : OUTSIDE) {
            Check.due("stop", x.layOut(bad, 0, 1, 0), BAD_INDEX);
            Check.due("all four", x.layOut(bad, bad, bad, bad), BAD_INDEX);
            Check.due("manual", x.layOut(0, bad, 1, 0), BAD_VALUE);
            Check.due("demand", x.layOut(0, 0, bad, 0), BAD_VALUE);
            Check.due("least pressure", x.layOut(0, 0, 1, bad), BAD_VALUE);
        }
        Check.due("all else stays", x.stop(0, 1), 6);
        Check.sentence("Promise 2", "Recorded.");
        OrganWind y = new OrganWind();
        Check.recorded("layOut", y, 0, () -> y.layOut(0, 1, 40, 200));
        y.layOut(0, 0, 0, 0);
        Check.due("an error is not", y.undo(), NOT_POSSIBLE);
    }

    private static void stop() {
        OrganWind x = new OrganWind();
        x.layOut(7, 0, 40, 200);
        x.draw(7, true);
        x.cipher(7, 23, true);
        x.tick(3);
        Check.sentence("Promise 3", "- `stop`: 0 to 7");
        Check.due("-1", x.stop(-1, 0), BAD_INDEX);
        Check.due("0", x.stop(0, 1), 4);
        Check.due("7", x.stop(7, 1), 40);
        Check.due("8", x.stop(8, 0), BAD_INDEX);
        Check.sentence("Promise 3", "- `what`: 0 for its manual, 1 for its demand, 2 for its least pressure, 3 for 1 if it"
                + " is drawn and 0 if not, 4 for the wind that its pipes have got since the beginning");
        Check.due("-1", x.stop(7, -1), BAD_VALUE);
        int[] told = {0, 40, 200, 1, 3 * 38};
        for (int what = 0; what <= 4; what++) {
            Check.due("what " + what, x.stop(7, what), told[what]);
        }
        Check.due("5", x.stop(7, 5), BAD_VALUE);
        x.draw(7, false);
        x.tick(1);
        Check.due("not drawn", x.stop(7, 3), 0);
        Check.due("wind since the beginning", x.stop(7, 4), 114);
        Check.due("another stop got nothing", x.stop(6, 4), 0);
        Check.sentence("Promise 3", "Returns this number; BAD_INDEX; BAD_VALUE.");
        Check.due("manual", x.stop(1, 0), 1);
        for (int bad : OUTSIDE) {
            Check.due("stop", x.stop(bad, 0), BAD_INDEX);
            Check.due("both", x.stop(bad, bad), BAD_INDEX);
            Check.due("what", x.stop(0, bad), BAD_VALUE);
        }
    }

    private static void set() {
        OrganWind x = new OrganWind();
        Check.sentence("Promise 4", "- `setting`: 0 to 8");
        Check.due("-1", x.set(-1, 100), BAD_INDEX);
        Check.due("0", x.set(0, 100), 80);
        Check.due("8", x.set(8, 10), 8);
        Check.due("9", x.set(9, 100), BAD_INDEX);
        Check.sentence("Promise 4", "- `value`: in the range of this setting");
        int[] least = {20, 0, 0, 100, 1000, 0, 10, 1, 0};
        int[] most = {200, 100, 100, 2000, 20000, 20000, 500, 8, 32};
        for (int setting = 0; setting < 9; setting++) {
            Check.due("below, setting " + setting, x.set(setting, least[setting] - 1), BAD_VALUE);
            Check.due("least, setting " + setting, x.set(setting, least[setting]) >= 0 ? 1 : 0, 1);
            Check.due("most, setting " + setting, x.set(setting, most[setting]), least[setting]);
            Check.due("above, setting " + setting, x.set(setting, most[setting] + 1), BAD_VALUE);
        }
        Check.sentence("Promise 4", "Returns the previous value; BAD_INDEX; BAD_VALUE.");
        for (int setting = 0; setting < 9; setting++) {
            Check.due("previous value " + setting, x.set(setting, least[setting]), most[setting]);
        }
        for (int bad : OUTSIDE) {
            Check.due("setting", x.set(bad, 100), BAD_INDEX);
            Check.due("both", x.set(bad, bad), BAD_INDEX);
            Check.due("value", x.set(3, bad), BAD_VALUE);
        }
        Check.due("the value stays", x.set(3, 500), 100);
        Check.sentence("Promise 4", "Recorded.");
        OrganWind y = new OrganWind();
        Check.recorded("set", y, 0, () -> y.set(8, 32));
        y.set(8, 33);
        Check.due("an error is not", y.undo(), NOT_POSSIBLE);
    }

    private static void cipher() {
        Check.sentence("Promise 5", "Makes a pipe cipher, or cures it.");
        OrganWind x = new OrganWind();
        x.draw(4, true);
        x.cipher(4, 23, true);
        Check.due("ciphers", x.reason(4, 23), 0);
        Check.due("not its neighbour", x.reason(4, 22), 2);
        x.cipher(4, 22, false);
        Check.due("ciphers still", x.reason(4, 23), 0);
        x.cipher(4, 23, false);
        Check.due("is cured", x.reason(4, 23), 2);
        Check.sentence("Promise 5", "- `ciphers`: whether it ciphers from now on");
        Check.due("it does", x.cipher(4, 0, true), 1);
        Check.due("it does still", x.cipher(4, 0, true), 1);
        Check.due("from now on", x.tell(6), 1);
        Check.due("it does not", x.cipher(4, 0, false), 0);
        Check.due("it does still not", x.cipher(4, 0, false), 0);
        Check.due("from now on", x.tell(6), 0);
    }

    private static void cipherArguments() {
        OrganWind x = new OrganWind();
        Check.sentence("Promise 5", "- `stop`: 0 to 7");
        Check.due("-1", x.cipher(-1, 0, true), BAD_INDEX);
        Check.due("0", x.cipher(0, 0, true), 1);
        Check.due("7", x.cipher(7, 0, true), 2);
        Check.due("8", x.cipher(8, 0, true), BAD_INDEX);
        Check.sentence("Promise 5", "- `key`: 0 to 23");
        Check.due("-1", x.cipher(0, -1, true), BAD_INDEX);
        Check.due("0", x.cipher(1, 0, true), 3);
        Check.due("23", x.cipher(0, 23, true), 4);
        Check.due("24", x.cipher(0, 24, true), BAD_INDEX);
        Check.sentence("Promise 5", "Returns the number of pipes that cipher then; BAD_INDEX; FULL if it is to cipher,"
                + " does not yet, and 6 others do.");
        Check.due("5", x.cipher(0, 11, true), 5);
        Check.due("6", x.cipher(0, 12, true), 6);
        Check.due("7", x.cipher(0, 13, true), FULL);
        Check.due("it ciphers already", x.cipher(0, 12, true), 6);
        Check.due("it is to be cured", x.cipher(0, 13, false), 6);
        for (int bad : OUTSIDE) {
            Check.due("stop", x.cipher(bad, 13, true), BAD_INDEX);
            Check.due("key", x.cipher(0, bad, true), BAD_INDEX);
            Check.due("key, to be cured", x.cipher(0, bad, false), BAD_INDEX);
        }
        Check.due("six still", x.tell(8), 6);
        Check.due("a cure", x.cipher(7, 0, false), 5);
        Check.due("then there is room", x.cipher(0, 13, true), 6);
        Check.sentence("Promise 5", "Recorded.");
        OrganWind y = new OrganWind();
        Check.recorded("cipher", y, 0, () -> y.cipher(0, 0, true));
        y.cipher(0, 24, true);
        Check.due("an error is not", y.undo(), NOT_POSSIBLE);
        Check.recorded("cipher with six", x, 4, () -> x.cipher(0, 13, true));
        x.cipher(0, 14, true);
        Check.due("FULL is not", x.undo(), 3);
    }

    private static void draw() {
        OrganWind x = new OrganWind();
        Check.sentence("Promise 6", "Draws a stop, or retires it.");
        x.press(0, 0, true);
        x.draw(0, true);
        Check.due("is drawn", x.reason(0, 0), 0);
        x.draw(0, false);
        Check.due("is retired", x.reason(0, 0), 1);
        Check.sentence("Promise 6", "- `stop`: 0 to 7");
        Check.due("-1", x.draw(-1, true), BAD_INDEX);
        Check.due("0", x.draw(0, true), 1);
        Check.due("7", x.draw(7, true), 2);
        Check.due("8", x.draw(8, true), BAD_INDEX);
        Check.due("8 is not retired either", x.draw(8, false), BAD_INDEX);
        Check.sentence("Promise 6", "- `on`: whether it is drawn from now on");
        Check.due("drawn", x.draw(3, true), 3);
        Check.due("drawn still", x.draw(3, true), 3);
        Check.due("is told", x.stop(3, 3), 1);
        Check.due("retired", x.draw(3, false), 2);
        Check.due("retired still", x.draw(3, false), 2);
        Check.due("is told", x.stop(3, 3), 0);
        Check.sentence("Promise 6", "Returns the number of stops that are drawn then; BAD_INDEX.");
        for (int stop = 0; stop < 8; stop++) {
            x.draw(stop, true);
        }
        Check.due("all", x.draw(0, true), 8);
        for (int stop = 0; stop < 8; stop++) {
            Check.due("left", x.draw(stop, false), 7 - stop);
        }
        for (int bad : OUTSIDE) {
            Check.due("bad", x.draw(bad, true), BAD_INDEX);
            Check.due("bad", x.draw(bad, false), BAD_INDEX);
        }
        Check.sentence("Promise 6", "Recorded.");
        OrganWind y = new OrganWind();
        Check.recorded("draw", y, 0, () -> y.draw(7, true));
        Check.recorded("retire", y, 0, () -> y.draw(7, false));
        y.draw(8, true);
        Check.due("an error is not", y.undo(), NOT_POSSIBLE);
    }

    private static void press() {
        Check.sentence("Promise 7", "Presses a key, or releases it.");
        OrganWind x = new OrganWind();
        x.press(1, 23, true);
        Check.due("is pressed", x.chest(1, 2), 1 << 23);
        Check.due("not on the other manual", x.chest(0, 2), 0);
        x.press(0, 23, false);
        Check.due("is not released there", x.chest(1, 2), 1 << 23);
        x.press(1, 23, false);
        Check.due("is released", x.chest(1, 2), 0);
        Check.sentence("Promise 7", "- `on`: whether it is pressed from now on");
        Check.due("pressed", x.press(0, 0, true), 1);
        Check.due("pressed still", x.press(0, 0, true), 1);
        Check.due("is told", x.chest(0, 2), 1);
        Check.due("released", x.press(0, 0, false), 0);
        Check.due("released still", x.press(0, 0, false), 0);
        Check.due("is told", x.chest(0, 2), 0);
    }

    private static void pressArguments() {
        OrganWind x = new OrganWind();
        Check.sentence("Promise 7", "- `manual`: 0 or 1");
        Check.due("-1", x.press(-1, 0, true), BAD_INDEX);
        Check.due("0", x.press(0, 4, true), 1);
        Check.due("1", x.press(1, 4, true), 1);
        Check.due("2", x.press(2, 0, true), BAD_INDEX);
        Check.sentence("Promise 7", "- `key`: 0 to 23");
        Check.due("-1", x.press(0, -1, true), BAD_INDEX);
        Check.due("0", x.press(0, 0, true), 2);
        Check.due("23", x.press(0, 23, true), 3);
        Check.due("24", x.press(0, 24, true), BAD_INDEX);
        Check.sentence("Promise 7", "Returns the number of keys that are pressed on this manual then; BAD_INDEX.");
        x.couple(true, true);
        Check.due("of this manual, without those of couplers", x.press(1, 5, true), 2);
        for (int key = 0; key < 24; key++) {
            x.press(1, key, true);
        }
        Check.due("all", x.press(1, 0, true), 24);
        Check.due("all but one", x.press(1, 12, false), 23);
        Check.due("the other manual", x.press(0, 23, false), 2);
        for (int bad : OUTSIDE) {
            Check.due("manual", x.press(bad, 0, true), BAD_INDEX);
            Check.due("key", x.press(0, bad, true), BAD_INDEX);
            Check.due("key, to be released", x.press(1, bad, false), BAD_INDEX);
        }
        Check.sentence("Promise 7", "Recorded.");
        OrganWind y = new OrganWind();
        Check.recorded("press", y, 0, () -> y.press(1, 23, true));
        Check.recorded("release", y, 0, () -> y.press(1, 23, false));
        y.press(1, 24, true);
        Check.due("an error is not", y.undo(), NOT_POSSIBLE);
    }

    private static void couple() {
        OrganWind x = new OrganWind();
        Check.sentence("Promise 8", "Sets both couplers.");
        x.press(0, 0, true);
        int[] keysOf0 = {1, 1, 1 | 1 << 12, 1 | 1 << 12};
        int[] keysOf1 = {0, 1, 0, 1 | 1 << 12};
        for (int both : new int[] {3, 0, 1, 2, 0, 3, 1, 0, 2, 3, 2, 1}) {
            x.couple(both % 2 == 1, both >= 2);
            Check.due("keys of 0", x.chest(0, 2), keysOf0[both]);
            Check.due("keys of 1", x.chest(1, 2), keysOf1[both]);
        }
        x.couple(false, false);
        Check.sentence("Promise 8", "- `manual`: whether the manual coupler is on");
        x.couple(true, false);
        Check.due("on", x.chest(1, 2), 1);
        x.couple(false, false);
        Check.due("off", x.chest(1, 2), 0);
        Check.sentence("Promise 8", "- `octave`: whether the octave coupler is on");
        x.couple(false, true);
        Check.due("on", x.chest(0, 2), 1 | 1 << 12);
        x.couple(false, false);
        Check.due("off", x.chest(0, 2), 1);
        Check.sentence("Promise 8", "Returns what they were: 1 for the manual coupler plus 2 for the octave coupler, for"
                + " those that were on.");
        Check.due("none", x.couple(true, false), 0);
        Check.due("manual", x.couple(false, true), 1);
        Check.due("octave", x.couple(true, true), 2);
        Check.due("both", x.couple(true, true), 3);
        Check.sentence("Promise 8", "Recorded.");
        Check.recorded("couple", x, 4, () -> x.couple(false, false));
        OrganWind y = new OrganWind();
        Check.recorded("couple of a new one", y, 0, () -> y.couple(true, true));
        Check.due("they are off again", y.couple(false, false), 0);
    }

    private static void tick() {
        OrganWind x = new OrganWind();
        Check.sentence("Promise 9", "Lets ticks pass.");
        Check.due("four ticks", x.tick(4), 3120);
        Check.due("time", x.tell(2), 4);
        Check.sentence("Promise 9", "- `ticks`: 1 to 200");
        Check.due("0", x.tick(0), BAD_VALUE);
        Check.due("1", x.tick(1), 3150);
        Check.due("200", x.tick(200), 4080);
        Check.due("201", x.tick(201), BAD_VALUE);
        Check.due("time", x.tell(2), 205);
        Check.sentence("Promise 9", "Returns V then; BAD_VALUE.");
        Check.due("V", x.tick(1), x.tell(0));
        for (int bad : OUTSIDE) {
            Check.due("bad", x.tick(bad), BAD_VALUE);
        }
        Check.due("no time passes", x.tell(2), 206);
        Check.sentence("Promise 9", "Recorded.");
        OrganWind y = new OrganWind();
        Check.recorded("one tick", y, 0, () -> y.tick(1));
        Check.recorded("200 ticks", y, 0, () -> y.tick(200));
        y.tick(201);
        Check.due("an error is not", y.undo(), NOT_POSSIBLE);
    }
}
