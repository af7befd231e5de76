/** Promises 14 to 18: tell, chest, strokes, pipe, reason. */
public final class TellingPromisesTest {
    private static final int[] OUTSIDE = {Integer.MIN_VALUE, -1000000, -1, Integer.MAX_VALUE};
    private static final int NONE = -1000005;

    public static void main(String[] args) {
        tell();
        tellErrors();
        allWindIsAccountedFor();
        reservoirPressure();
        chest();
        chestErrors();
        strokes();
        pipe();
        pitchIsRoundedDown();
        flowsInOrder();
        pipeErrors();
        reason();
        reasonErrors();
        Check.end();
    }

    private static void tell() {
        OrganWind x = new OrganWind();
        x.draw(0, true);
        x.draw(6, true);
        x.cipher(6, 8, true);
        x.cipher(1, 8, true);
        x.press(0, 23, true);
        x.set(6, 50);
        Check.due("open", x.tell(6), 4 - 1);
        Check.due("speak", x.tell(7), 3);
        Check.due("cipher", x.tell(8), 2);
        x.layOut(6, 0, 16, 100);
        Check.due("still open", x.tell(6), 3);
        Check.due("but speaks less", x.tell(7), 1);
        x.tick(2);
        Check.due("time", x.tell(2), 2);
        Check.due("made", x.tell(3), 24);
        Check.due("got", x.tell(4), 2 * (3 + 15 + 18));
        Check.due("left", x.tell(9), 26);
        Check.due("V", x.tell(0), 3000 + 24 - 72);
        Check.due("asking changes nothing", x.undo(), 4);
    }

    private static void tellErrors() {
        OrganWind x = new OrganWind();
        for (int bad : OUTSIDE) {
            Check.due("tell bad", x.tell(bad), -1000001);
        }
        Check.due("tell 10", x.tell(10), -1000001);
    }

    private static void allWindIsAccountedFor() {
        OrganWind x = new OrganWind();
        x.set(4, 3100);
        x.set(6, 333);
        x.draw(3, true);
        x.draw(4, true);
        x.cipher(3, 2, true);
        x.press(0, 7, true);
        for (int i = 0; i < 20; i++) {
            x.tick(7);
            Check.due("V", x.tell(0), 3000 + x.tell(3) - x.tell(4) - x.tell(5));
            int strokes = 333 * (x.strokes(0) + x.strokes(1));
            Check.due("strokes", x.tell(3) + x.tell(9), strokes);
            Check.due("stops", x.tell(4), x.stop(3, 4) + x.stop(4, 4));
        }
        Check.due("something was spilled", x.tell(5) > 0 ? 1 : 0, 1);
    }

    private static void reservoirPressure() {
        OrganWind x = new OrganWind();
        x.set(5, 0);
        x.set(3, 2000);
        x.set(1, 0);
        Check.due("above the low mark", x.tell(1), 80);
        x.layOut(0, 0, 40, 0);
        x.draw(0, true);
        x.press(0, 23, true);
        x.tick(25);
        Check.due("V at the low mark", x.tell(0), 2000);
        Check.due("at the low mark", x.tell(1), 80);
        x.tick(1);
        Check.due("V below it", x.tell(0), 1960);
        Check.due("below the low mark", x.tell(1), 78);
        x.set(0, 200);
        Check.due("another weight", x.tell(1), 196);
        x.set(3, 1961);
        Check.due("just below the low mark", x.tell(1), 199);
        x.set(3, 1960);
        Check.due("at the low mark again", x.tell(1), 200);
    }

    private static void chest() {
        OrganWind x = new OrganWind();
        x.draw(0, true);
        x.draw(2, true);
        x.draw(3, true);
        x.press(0, 0, true);
        x.press(0, 23, true);
        x.press(1, 10, true);
        Check.due("needs of 0", x.chest(0, 1), 9 + 4 + 13 + 8);
        Check.due("needs of 1", x.chest(1, 1), 13);
        Check.due("pressure of 0", x.chest(0, 0), 80 - 3);
        Check.due("pressure of 1", x.chest(1, 0), 80 - 1);
        x.set(2, 100);
        Check.due("pressure of 1, loss 100", x.chest(1, 0), 67);
        Check.due("pressure of 0 stays", x.chest(0, 0), 77);
        x.set(1, 0);
        Check.due("pressure of 0, no loss", x.chest(0, 0), 80);
        x.layOut(0, 1, 40, 0);
        x.couple(true, true);
        Check.due("keys of 0", x.chest(0, 2), 1 | 1 << 23 | 1 << 12);
        Check.due("keys of 1", x.chest(1, 2), 1 | 1 << 23 | 1 << 12 | 1 << 10);
        int needs = 45 + 43 + 42 + 40 + 15 + 13 + 12 + 10;
        Check.due("needs of 1 then", x.chest(1, 1), needs);
        Check.due("at least 0", x.chest(1, 0), 0);
    }

    private static void chestErrors() {
        OrganWind x = new OrganWind();
        for (int bad : OUTSIDE) {
            Check.due("chest manual", x.chest(bad, 0), -1000001);
            Check.due("chest both", x.chest(bad, bad), -1000001);
            Check.due("chest what", x.chest(0, bad), -1000002);
        }
        Check.due("chest 2", x.chest(2, 3), -1000001);
        Check.due("chest what 3", x.chest(1, 3), -1000002);
    }

    private static void strokes() {
        OrganWind x = new OrganWind();
        x.set(7, 1);
        x.tick(5);
        Check.due("strokes of 0", x.strokes(0), 3);
        Check.due("strokes of 1", x.strokes(1), 2);
        for (int bad : OUTSIDE) {
            Check.due("strokes bad", x.strokes(bad), -1000001);
        }
        Check.due("strokes 2", x.strokes(2), -1000001);
    }

    private static void pipe() {
        OrganWind x = new OrganWind();
        Check.due("need of a shut pipe", x.pipe(7, 0, 0), 23);
        Check.due("offset of a shut pipe", x.pipe(7, 0, 1), 0);
        for (int what = 2; what < 5; what++) {
            Check.due("a shut pipe", x.pipe(7, 0, what), NONE);
        }
        x.cipher(7, 0, true);
        Check.due("a cipher of a stop that is not drawn", x.pipe(7, 0, 2), NONE);
        x.draw(7, true);
        Check.due("asks", x.pipe(7, 0, 2), 23 * 78 / 80);
        Check.due("gets", x.pipe(7, 0, 3), 22);
        Check.due("pitch", x.pipe(7, 0, 4), -1);
        x.set(8, 32);
        Check.due("pitch, steep", x.pipe(7, 0, 4), -4);
        x.tune(7, 0);
        Check.due("offset", x.pipe(7, 0, 1), 4);
        x.set(8, 0);
        Check.due("pitch, flat", x.pipe(7, 0, 4), 4);
        x.draw(7, false);
        Check.due("offset of a shut pipe", x.pipe(7, 0, 1), 4);
    }

    private static void pitchIsRoundedDown() {
        OrganWind x = new OrganWind();
        x.draw(0, true);
        x.press(0, 0, true);
        x.set(1, 12);
        x.set(8, 1);
        Check.due("pressure", x.chest(0, 0), 79);
        Check.due("-1 / 16", x.pipe(0, 0, 4), -1);
        x.set(8, 16);
        Check.due("-16 / 16", x.pipe(0, 0, 4), -1);
        x.set(8, 17);
        Check.due("-17 / 16", x.pipe(0, 0, 4), -2);
        x.set(8, 32);
        Check.due("-32 / 16", x.pipe(0, 0, 4), -2);
    }

    /** With 10 left, stop 0 and the low keys come first, whatever the manual. */
    private static void flowsInOrder() {
        OrganWind x = new OrganWind();
        x.set(5, 0);
        x.set(3, 100);
        x.set(1, 0);
        x.set(2, 0);
        x.layOut(2, 1, 40, 0);
        x.draw(2, true);
        x.press(1, 0, true);
        x.press(1, 1, true);
        x.press(1, 23, true);
        x.tick(23);
        Check.due("V", x.tell(0), 10);
        x.layOut(1, 0, 40, 0);
        x.draw(1, true);
        x.press(0, 22, true);
        Check.due("stop 1 first", x.pipe(1, 22, 3), 4);
        Check.due("then the lowest key of stop 2", x.pipe(2, 0, 3), 4);
        Check.due("then the next one", x.pipe(2, 1, 3), 2);
        Check.due("and the last one", x.pipe(2, 23, 3), 0);
        Check.due("which asks", x.pipe(2, 23, 2), 4);
        Check.due("reason of the second", x.reason(2, 1), 4);
        Check.due("reason of the last", x.reason(2, 23), 4);
        Check.due("speak", x.tell(7), 2);
        x.tick(1);
        Check.due("stop 1 got", x.stop(1, 4), 4);
        Check.due("stop 2 got", x.stop(2, 4), 2990 + 6);
    }

    private static void pipeErrors() {
        OrganWind x = new OrganWind();
        for (int bad : OUTSIDE) {
            Check.due("pipe stop", x.pipe(bad, 0, 0), -1000001);
            Check.due("pipe key", x.pipe(0, bad, 0), -1000001);
            Check.due("pipe what", x.pipe(0, 0, bad), -1000002);
            Check.due("pipe all", x.pipe(bad, bad, bad), -1000001);
        }
        Check.due("pipe stop 8", x.pipe(8, 0, 5), -1000001);
        Check.due("pipe key 24", x.pipe(0, 24, 5), -1000001);
        Check.due("pipe what 5", x.pipe(7, 23, 5), -1000002);
    }

    private static void reason() {
        OrganWind x = new OrganWind();
        Check.due("not drawn", x.reason(2, 5), 1);
        x.cipher(2, 5, true);
        Check.due("not drawn, but it ciphers", x.reason(2, 5), 1);
        x.draw(2, true);
        Check.due("ciphers", x.reason(2, 5), 0);
        Check.due("no key", x.reason(2, 6), 2);
        x.press(1, 6, true);
        Check.due("a key of the other manual", x.reason(2, 6), 2);
        x.press(0, 6, true);
        Check.due("its key", x.reason(2, 6), 0);
        int pressure = 80 - 24 * 10 / 100;
        x.layOut(2, 0, 8, pressure);
        Check.due("just enough pressure", x.reason(2, 6), 0);
        x.layOut(2, 0, 8, pressure + 1);
        Check.due("too little pressure", x.reason(2, 6), 3);
        x.layOut(2, 0, 8, 0);
        x.set(1, 100);
        x.layOut(4, 0, 40, 0);
        x.draw(4, true);
        x.press(0, 7, true);
        Check.due("no pressure left", x.chest(0, 0), 0);
        Check.due("asks for 0", x.reason(2, 6), 5);
        x.draw(4, false);
        x.press(0, 23, true);
        x.layOut(2, 0, 1, 0);
        Check.due("asks for 4", x.pipe(2, 7, 2), 4);
        x.set(1, 0);
        Check.due("asks for 1", x.pipe(2, 23, 2), 1);
        Check.due("which is enough", x.reason(2, 23), 0);
        Check.due("all speak", x.tell(7), 4);
        x.set(1, 100);
        x.draw(4, true);
        x.layOut(2, 0, 8, 1);
        Check.due("pressure comes first", x.reason(2, 6), 3);
    }

    private static void reasonErrors() {
        OrganWind x = new OrganWind();
        for (int bad : OUTSIDE) {
            Check.due("reason stop", x.reason(bad, 0), -1000001);
            Check.due("reason key", x.reason(0, bad), -1000001);
        }
        Check.due("reason stop 8", x.reason(8, 0), -1000001);
        Check.due("reason key 24", x.reason(0, 24), -1000001);
    }
}
