/** Promises 1 to 5: a new object, layOut, stop, set, cipher. */
public final class OrganPromisesTest {
    private static final int[] FIRST = {80, 10, 10, 500, 6000, 4000, 120, 4, 8};
    private static final int[] LEAST = {20, 0, 0, 100, 1000, 0, 10, 1, 0};
    private static final int[] MOST = {200, 100, 100, 2000, 20000, 20000, 500, 8, 32};
    private static final int[] OUTSIDE = {Integer.MIN_VALUE, -1000000, -1, Integer.MAX_VALUE};

    public static void main(String[] args) {
        newStops();
        newOrgan();
        newObjectsAreApart();
        layOut();
        layOutErrors();
        layOutKeepsTheRest();
        stop();
        set();
        setErrors();
        cipher();
        cipherErrors();
        Check.end();
    }

    private static void newStops() {
        for (int s = 0; s < 8; s++) {
            OrganWind x = new OrganWind();
            Check.due("new stop manual", x.stop(s, 0), s % 2);
            Check.due("new stop demand", x.stop(s, 1), 4 + 2 * s);
            Check.due("new stop least", x.stop(s, 2), 20 + 5 * s);
            Check.due("new stop drawn", x.stop(s, 3), 0);
            Check.due("new stop wind", x.stop(s, 4), 0);
            for (int key = 0; key < 24; key++) {
                Check.due("new pipe need", x.pipe(s, key, 0), 4 + 2 * s + (23 - key) / 4);
                Check.due("new pipe offset", x.pipe(s, key, 1), 0);
                Check.due("new pipe is shut", x.pipe(s, key, 2), -1000005);
                Check.due("new reason", x.reason(s, key), 1);
            }
            Check.due("new robbed", x.robbed(s), 0);
        }
    }

    private static void newOrgan() {
        OrganWind x = new OrganWind();
        int[] told = {3000, 80, 0, 0, 0, 0, 0, 0, 0, 0};
        for (int what = 0; what < 10; what++) {
            Check.due("new tell(" + what + ")", x.tell(what), told[what]);
        }
        for (int manual = 0; manual < 2; manual++) {
            Check.due("new chest pressure", x.chest(manual, 0), 80);
            Check.due("new chest needs", x.chest(manual, 1), 0);
            Check.due("new chest keys", x.chest(manual, 2), 0);
            Check.due("new strokes", x.strokes(manual), 0);
        }
        Check.due("new mistuned", x.mistuned(), -1000005);
        Check.due("new text has no fault", x.faultPosition(), -1000005);
        Check.due("new text is empty", x.clearText(), 0);
        Check.due("new slot 0", x.restore(0), -1000003);
        Check.due("new slot 1", x.restore(1), -1000003);
        Check.due("new history", x.undo(), -1000003);
        Check.due("new couplers", x.couple(false, false), 0);
        for (int i = 0; i < 9; i++) {
            Check.due("new setting " + i, x.set(i, FIRST[i]), FIRST[i]);
        }
    }

    private static void newObjectsAreApart() {
        OrganWind x = new OrganWind();
        OrganWind y = new OrganWind();
        x.draw(0, true);
        x.press(0, 0, true);
        x.set(1, 50);
        x.append('t');
        x.save(0);
        Check.due("other's stops", y.tell(6), 0);
        Check.due("other's setting", y.set(1, 10), 10);
        Check.due("other's text", y.clearText(), 0);
        Check.due("other's slot", y.restore(0), -1000003);
        Check.due("other's history", y.undo(), 0);
    }

    private static void layOut() {
        OrganWind x = new OrganWind();
        Check.due("layOut", x.layOut(3, 0, 40, 200), 10);
        Check.due("manual laid out", x.stop(3, 0), 0);
        Check.due("demand laid out", x.stop(3, 1), 40);
        Check.due("least laid out", x.stop(3, 2), 200);
        Check.due("need laid out", x.pipe(3, 0, 0), 45);
        Check.due("need laid out, high", x.pipe(3, 23, 0), 40);
        Check.due("layOut again", x.layOut(3, 1, 1, 0), 40);
        Check.due("least demand", x.stop(3, 1), 1);
        Check.due("least pressure", x.stop(3, 2), 0);
        Check.due("need of key 19", x.pipe(3, 19, 0), 2);
        Check.due("need of key 20", x.pipe(3, 20, 0), 1);
        Check.due("other stops stay", x.stop(2, 1), 8);
        Check.due("layOut is recorded", x.undo(), 1);
        Check.due("demand before", x.stop(3, 1), 40);
    }

    private static void layOutErrors() {
        OrganWind x = new OrganWind();
        for (int bad : OUTSIDE) {
            Check.due("layOut stop", x.layOut(bad, 0, 1, 0), -1000001);
            Check.due("layOut manual", x.layOut(0, bad, 1, 0), -1000002);
            Check.due("layOut demand", x.layOut(0, 0, bad, 0), -1000002);
            Check.due("layOut least", x.layOut(0, 0, 1, bad), -1000002);
        }
        Check.due("layOut stop 8", x.layOut(8, 2, 0, 201), -1000001);
        Check.due("layOut manual 2", x.layOut(7, 2, 1, 0), -1000002);
        Check.due("layOut demand 0", x.layOut(7, 1, 0, 0), -1000002);
        Check.due("layOut demand 41", x.layOut(7, 1, 41, 0), -1000002);
        Check.due("layOut least 201", x.layOut(7, 1, 1, 201), -1000002);
        Check.due("errors change nothing", x.stop(7, 1), 18);
        Check.due("errors are not recorded", x.undo(), -1000003);
    }

    private static void layOutKeepsTheRest() {
        OrganWind x = new OrganWind();
        x.draw(0, true);
        x.draw(2, true);
        x.press(0, 0, true);
        x.cipher(0, 5, true);
        x.tick(3);
        int wind = x.stop(0, 4);
        Check.due("wind that was got", wind, 3 * (9 * 77 / 80 + 8 * 77 / 80));
        Check.due("tune", x.tune(0, 0), 0);
        Check.due("tune", x.tune(2, 0), 0);
        Check.due("tuned", x.pipe(0, 0, 1), 2);
        Check.due("layOut", x.layOut(0, 1, 4, 20), 4);
        Check.due("offset becomes 0", x.pipe(0, 0, 1), 0);
        Check.due("other offset stays", x.pipe(2, 0, 1), 2);
        Check.due("is still drawn", x.stop(0, 3), 1);
        Check.due("still ciphers", x.tell(8), 1);
        Check.due("wind stays", x.stop(0, 4), wind);
        Check.due("key acts on the other manual now", x.reason(0, 0), 2);
        Check.due("pipe ciphers on the other manual", x.reason(0, 5), 0);
    }

    private static void stop() {
        OrganWind x = new OrganWind();
        x.draw(1, true);
        x.cipher(1, 23, true);
        x.tick(7);
        Check.due("stop drawn", x.stop(1, 3), 1);
        Check.due("stop wind", x.stop(1, 4), 42);
        x.draw(1, false);
        x.tick(7);
        Check.due("stop retired", x.stop(1, 3), 0);
        Check.due("stop keeps its wind", x.stop(1, 4), 42);
        for (int bad : OUTSIDE) {
            Check.due("stop", x.stop(bad, 0), -1000001);
            Check.due("stop, both bad", x.stop(bad, bad), -1000001);
            Check.due("stop what", x.stop(0, bad), -1000002);
        }
        Check.due("stop 8", x.stop(8, 5), -1000001);
        Check.due("stop what 5", x.stop(7, 5), -1000002);
        Check.due("stop is not recorded", x.undo(), 4);
    }

    private static void set() {
        for (int i = 0; i < 9; i++) {
            OrganWind x = new OrganWind();
            Check.due("set first", x.set(i, LEAST[i]), FIRST[i]);
            Check.due("set least", x.set(i, MOST[i]), LEAST[i]);
            Check.due("set most", x.set(i, FIRST[i]), MOST[i]);
            Check.due("below least", x.set(i, LEAST[i] - 1), -1000002);
            Check.due("above most", x.set(i, MOST[i] + 1), -1000002);
            Check.due("set is recorded", x.undo(), 2);
            Check.due("undone", x.set(i, LEAST[i]), MOST[i]);
            for (int j = 0; j < 9; j++) {
                Check.due("others stay", x.set(j, FIRST[j]), j == i ? LEAST[i] : FIRST[j]);
            }
        }
    }

    private static void setErrors() {
        OrganWind x = new OrganWind();
        long before = x.checksum();
        for (int bad : OUTSIDE) {
            Check.due("set setting", x.set(bad, 100), -1000001);
            Check.due("set both", x.set(bad, bad), -1000001);
            Check.due("set value", x.set(0, bad), -1000002);
        }
        Check.due("set 9", x.set(9, 100), -1000001);
        Check.due("errors change nothing", x.checksum(), before);
        Check.due("errors are not recorded", x.undo(), -1000003);
    }

    private static void cipher() {
        OrganWind x = new OrganWind();
        for (int i = 0; i < 6; i++) {
            Check.due("cipher", x.cipher(i + 2, 4 * i, true), i + 1);
        }
        Check.due("a seventh", x.cipher(0, 0, true), -1000004);
        Check.due("one of them again", x.cipher(7, 20, true), 6);
        Check.due("cure another one", x.cipher(0, 0, false), 6);
        Check.due("cure", x.cipher(7, 20, false), 5);
        Check.due("cure again", x.cipher(7, 20, false), 5);
        Check.due("the sixth again", x.cipher(0, 23, true), 6);
        Check.due("number", x.tell(8), 6);
        Check.due("none is open without its stop", x.tell(6), 0);
        x.draw(0, true);
        Check.due("it is open with it", x.tell(6), 1);
        Check.due("and sounds without a key", x.reason(0, 23), 0);
        Check.due("not its neighbour", x.reason(0, 22), 2);
        x.press(0, 23, true);
        Check.due("open once with a key too", x.tell(6), 1);
        Check.due("cipher is recorded", x.undo(), 4);
        x.undo();
        Check.due("and undone", x.undo(), 2);
        Check.due("five cipher", x.tell(8), 5);
    }

    private static void cipherErrors() {
        OrganWind x = new OrganWind();
        for (int bad : OUTSIDE) {
            Check.due("cipher stop", x.cipher(bad, 0, true), -1000001);
            Check.due("cipher key", x.cipher(0, bad, false), -1000001);
        }
        Check.due("cipher stop 8", x.cipher(8, 0, false), -1000001);
        Check.due("cipher key 24", x.cipher(0, 24, true), -1000001);
        Check.due("errors are not recorded", x.undo(), -1000003);
        for (int key = 0; key < 6; key++) {
            x.cipher(0, key, true);
        }
        Check.due("index is looked at first", x.cipher(8, 0, true), -1000001);
        Check.due("index is looked at first", x.cipher(0, 24, true), -1000001);
        x.undo();
        x.cipher(0, 20, true);
        Check.due("full", x.cipher(1, 0, true), -1000004);
        Check.due("full is not recorded", x.undo(), 4);
        Check.due("five before the last", x.tell(8), 5);
    }
}
