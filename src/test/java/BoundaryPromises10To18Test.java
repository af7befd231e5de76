/** The sentences of promises 10 to 18 at their boundaries. */
public final class BoundaryPromises10To18Test {
    private static final int BAD_INDEX = -1000001;
    private static final int BAD_VALUE = -1000002;
    private static final int NOT_POSSIBLE = -1000003;
    private static final int FULL = -1000004;
    private static final int NONE = -1000005;
    private static final int[] OUTSIDE = {-1, Integer.MIN_VALUE, Integer.MAX_VALUE};

    public static void main(String[] args) {
        append();
        clearText();
        faultPosition();
        play();
        playReturns();
        tellWind();
        tellPipes();
        tellStroke();
        chest();
        strokes();
        pipe();
        pipeReturns();
        reason();
        reasonInOrder();
        Check.end();
    }

    private static void append() {
        OrganWind x = new OrganWind();
        Check.sentence("Promise 10", "- `letter`: 0 to 127");
        Check.due("-1", x.append(-1), BAD_VALUE);
        Check.due("0", x.append(0), 1);
        Check.due("127", x.append(127), 2);
        Check.due("128", x.append(128), BAD_VALUE);
        Check.sentence("Promise 10", "Returns the length of the text then; BAD_VALUE; FULL if it has 80 bytes.");
        for (int bad : OUTSIDE) {
            Check.due("bad", x.append(bad), BAD_VALUE);
        }
        for (int length = 3; length <= 80; length++) {
            Check.due("length", x.append('d'), length);
        }
        Check.due("it has 80 bytes", x.append('d'), FULL);
        Check.due("and still", x.append('d'), FULL);
        for (int bad : OUTSIDE) {
            Check.due("bad, and it has 80 bytes", x.append(bad), BAD_VALUE);
        }
        Check.due("it keeps 80", x.clearText(), 80);
        Check.due("then there is room", x.append('d'), 1);
        Check.due("append is not recorded", x.undo(), NOT_POSSIBLE);
    }

    private static void clearText() {
        OrganWind x = new OrganWind();
        Check.sentence("Promise 11", "Empties the text.");
        Organs.write(x, "d0x");
        Check.due("a fault", x.faultPosition(), 2);
        x.clearText();
        Check.due("no fault", x.faultPosition(), NONE);
        Check.due("no acts", x.play(), 0);
        Check.due("the first byte", x.append('t'), 1);
        Check.due("nothing of it is left behind", x.faultPosition(), 1);
        Check.sentence("Promise 11", "Returns the length that it had.");
        Check.due("one", x.clearText(), 1);
        Check.due("empty", x.clearText(), 0);
        Organs.write(x, "d0".repeat(40));
        Check.due("full", x.clearText(), 80);
        Check.due("empty", x.clearText(), 0);
        Check.due("only play is recorded", x.undo(), 0);
    }

    private static void faultPosition() {
        OrganWind x = new OrganWind();
        Check.sentence("Promise 12", "Returns the fault position of the text; NONE if it has no fault.");
        Check.due("empty", x.faultPosition(), NONE);
        x.append('t');
        Check.due("too early", x.faultPosition(), 1);
        x.append('2');
        Check.due("too early", x.faultPosition(), 2);
        x.append('0');
        Check.due("too early", x.faultPosition(), 3);
        x.append('0');
        Check.due("too early", x.faultPosition(), 4);
        x.append(';');
        Check.due("no fault", x.faultPosition(), NONE);
        x.append(0);
        Check.due("byte 0", x.faultPosition(), 5);
        x.append('x');
        Check.due("the first fault", x.faultPosition(), 5);
        Check.due("it changes nothing", x.clearText(), 7);
        x.append('x');
        Check.due("the first byte", x.faultPosition(), 0);
        Check.due("it is not recorded", x.undo(), NOT_POSSIBLE);
    }

    private static void play() {
        OrganWind x = new OrganWind();
        Check.sentence("Promise 13", "Carries out the acts of the text, in order.");
        Organs.write(x, "d0p023;t2;r0t1;p00;l00;l01;p01;");
        x.play();
        Check.due("wind while stop 0 was drawn", x.stop(0, 4), 8);
        Check.due("stop 0 is retired", x.stop(0, 3), 0);
        Check.due("keys", x.chest(0, 2), 1 << 23 | 1 << 1);
        Check.due("time", x.tell(2), 3);
        Check.sentence("Promise 13", "Recorded as one call.");
        Check.recorded("play", x, 1, () -> x.play());
        OrganWind y = new OrganWind();
        Check.recorded("play of no acts", y, 0, () -> y.play());
        Organs.write(y, "d0".repeat(40));
        Check.recorded("play of 40 acts", y, 0, () -> y.play());
        Organs.write(y, "x");
        y.play();
        Check.due("an error is not", y.undo(), NOT_POSSIBLE);
        Check.sentence("Promise 13", "The text stays.");
        Check.due("after play", x.clearText(), 31);
        Organs.write(x, "t7;");
        x.play();
        Check.due("again", x.play(), 1);
        Check.due("time", x.tell(2), 17);
    }

    private static void playReturns() {
        OrganWind x = new OrganWind();
        Check.sentence("Promise 13", "Returns the number of acts; NOT_POSSIBLE if the text has a fault.");
        Check.due("none", x.play(), 0);
        Organs.write(x, "t1;");
        Check.due("one", x.play(), 1);
        Organs.write(x, "d1".repeat(40));
        Check.due("most", x.play(), 40);
        Organs.write(x, "t200;".repeat(16));
        Check.due("most time", x.play(), 16);
        Check.due("time", x.tell(2), 3201);
        Organs.write(x, "r1t9;d");
        Check.due("a fault at the end", x.play(), NOT_POSSIBLE);
        Check.due("nothing is carried out", x.stop(1, 3), 1);
        Check.due("no time passes", x.tell(2), 3201);
        Organs.write(x, "d8");
        Check.due("no such stop", x.play(), NOT_POSSIBLE);
        Organs.write(x, "p024;");
        Check.due("no such key", x.play(), NOT_POSSIBLE);
        Organs.write(x, "t0;");
        Check.due("no tick", x.play(), NOT_POSSIBLE);
    }

    private static void tellWind() {
        OrganWind x = new OrganWind();
        x.set(4, 3050);
        x.set(3, 2000);
        x.layOut(0, 0, 40, 200);
        x.cipher(0, 23, true);
        x.set(1, 0);
        Check.sentence("Promise 14", "- `what`: 0 for V,");
        Check.due("V", x.tell(0), 3000);
        x.tick(2);
        Check.due("V at the capacity", x.tell(0), 3050);
        x.draw(0, true);
        x.tick(1);
        Check.due("V below it", x.tell(0), 3010);
        Check.sentence("Promise 14", "1 for the pressure of the reservoir,");
        Check.due("above the low mark", x.tell(1), 80);
        x.set(0, 200);
        Check.due("another weight", x.tell(1), 200);
        Check.due("not that of a chest", Organs.holding(250).tell(1), 40);
        Check.sentence("Promise 14", "2 for the time,");
        Check.due("time", x.tell(2), 3);
        Check.sentence("Promise 14", "3 for all wind that was made (also what of it was spilled),");
        Check.due("made", x.tell(3), 90);
        Check.sentence("Promise 14", "4 for all that pipes got,");
        Check.due("got", x.tell(4), 40);
        x.draw(0, false);
        x.layOut(0, 0, 1, 0);
        Check.due("also by those that are not open now", x.tell(4), 40);
        Check.sentence("Promise 14", "5 for all that was spilled,");
        Check.due("spilled", x.tell(5), 40);
        Check.due("all is accounted for", 3000 + x.tell(3) - x.tell(4) - x.tell(5), x.tell(0));
        Check.sentence("Promise 14", "Returns this number; BAD_INDEX.");
        Check.due("-1", x.tell(-1), BAD_INDEX);
        Check.due("9", x.tell(9), 30);
        Check.due("10", x.tell(10), BAD_INDEX);
        for (int bad : OUTSIDE) {
            Check.due("bad", x.tell(bad), BAD_INDEX);
        }
    }

    private static void tellPipes() {
        OrganWind x = new OrganWind();
        for (int key = 0; key < 24; key++) {
            x.press(0, key, true);
            x.press(1, key, true);
        }
        x.set(1, 0);
        x.set(2, 0);
        Check.sentence("Promise 14", "6 for the number of open pipes,");
        Check.due("none", x.tell(6), 0);
        for (int stop = 0; stop < 8; stop++) {
            x.draw(stop, true);
            Check.due("stops", x.tell(6), 24 * (stop + 1));
        }
        Check.sentence("Promise 14", "7 for that of pipes that speak,");
        Check.due("all", x.tell(7), 192);
        x.layOut(0, 0, 4, 81);
        Check.due("all but those of stop 0", x.tell(7), 168);
        Check.due("which are open", x.tell(6), 192);
        for (int stop = 1; stop < 8; stop++) {
            x.layOut(stop, 0, 4, 200);
        }
        Check.due("none", x.tell(7), 0);
        Check.sentence("Promise 14", "8 for that of pipes that cipher,");
        Check.due("none", x.tell(8), 0);
        x.cipher(0, 0, true);
        x.draw(7, false);
        for (int key = 0; key < 5; key++) {
            x.cipher(7, key, true);
        }
        Check.due("six, also of a stop that is not drawn", x.tell(8), 6);
        x.cipher(7, 0, false);
        Check.due("five", x.tell(8), 5);
    }

    private static void tellStroke() {
        Check.sentence("Promise 14", "9 for what is left to be made of the stroke that is under way (0 if none is)");
        OrganWind x = new OrganWind();
        Check.due("none is under way", x.tell(9), 0);
        int[] left = {90, 60, 30, 0, 90};
        for (int i = 0; i < left.length; i++) {
            x.tick(1);
            Check.due("left after tick " + (i + 1), x.tell(9), left[i]);
        }
        x.set(6, 500);
        x.set(7, 8);
        Check.due("of the stroke as it began", x.tell(9), 90);
        x.tick(10);
        Check.due("seven parts of 62 are made", x.tell(9), 66);
        x.set(5, 0);
        x.tick(1);
        Check.due("none is under way", x.tell(9), 0);
        x.tick(1);
        Check.due("and none begins", x.tell(9), 0);
    }

    private static void chest() {
        OrganWind x = new OrganWind();
        Organs.sound(x, 0, 0, 40);
        Organs.sound(x, 1, 1, 30);
        x.press(0, 0, true);
        x.press(1, 23, true);
        Check.sentence("Promise 15", "- `manual`: 0 or 1");
        Check.due("-1", x.chest(-1, 0), BAD_INDEX);
        Check.due("0", x.chest(0, 1), 40 + 45);
        Check.due("1", x.chest(1, 1), 30);
        Check.due("2", x.chest(2, 0), BAD_INDEX);
        Check.sentence("Promise 15", "- `what`: 0 for the pressure of its chest, 1 for the sum of the needs of its open"
                + " pipes, 2 for the set of the keys that act on it, bit k for the key k");
        Check.due("-1", x.chest(0, -1), BAD_VALUE);
        Check.due("pressure of 0", x.chest(0, 0), 72);
        Check.due("pressure of 1", x.chest(1, 0), 77);
        Check.due("key 0 is bit 0", x.chest(0, 2), 1);
        Check.due("key 23 is bit 23", x.chest(1, 2), 0x800000);
        Check.due("3", x.chest(0, 3), BAD_VALUE);
        x.couple(true, true);
        Check.due("keys by couplers", x.chest(1, 2), 0x801001);
        x.draw(0, false);
        Check.due("no open pipe", x.chest(0, 1), 0);
        Check.due("the keys act all the same", x.chest(0, 2), 0x1001);
        Check.sentence("Promise 15", "Returns this number; BAD_INDEX; BAD_VALUE.");
        for (int bad : OUTSIDE) {
            Check.due("manual", x.chest(bad, 0), BAD_INDEX);
            Check.due("both", x.chest(bad, bad), BAD_INDEX);
            Check.due("what", x.chest(1, bad), BAD_VALUE);
        }
    }

    private static void strokes() {
        OrganWind x = new OrganWind();
        x.set(7, 1);
        x.tick(3);
        Check.sentence("Promise 16", "- `feeder`: 0 or 1");
        Check.due("-1", x.strokes(-1), BAD_INDEX);
        Check.due("0", x.strokes(0), 2);
        Check.due("1", x.strokes(1), 1);
        Check.due("2", x.strokes(2), BAD_INDEX);
        Check.sentence("Promise 16", "Returns the number of its strokes; BAD_INDEX.");
        Check.due("none of a new one", new OrganWind().strokes(1), 0);
        for (int bad : OUTSIDE) {
            Check.due("bad", x.strokes(bad), BAD_INDEX);
        }
    }

    private static void pipe() {
        OrganWind x = new OrganWind();
        x.set(1, 20);
        Organs.sound(x, 0, 0, 40);
        x.tune(0, 23);
        x.set(8, 4);
        Check.sentence("Promise 17", "- `stop`: 0 to 7");
        Check.due("-1", x.pipe(-1, 0, 0), BAD_INDEX);
        Check.due("0", x.pipe(0, 0, 0), 45);
        Check.due("7", x.pipe(7, 0, 0), 23);
        Check.due("8", x.pipe(8, 0, 0), BAD_INDEX);
        Check.sentence("Promise 17", "- `key`: 0 to 23");
        Check.due("-1", x.pipe(0, -1, 0), BAD_INDEX);
        Check.due("0", x.pipe(0, 0, 1), 0);
        Check.due("23", x.pipe(0, 23, 1), 4);
        Check.due("24", x.pipe(0, 24, 0), BAD_INDEX);
        Check.sentence("Promise 17", "- `what`: 0 for its need, 1 for its offset, 2 for what it asks for, 3 for what it"
                + " gets, 4 for its pitch");
        Check.due("-1", x.pipe(0, 23, -1), BAD_VALUE);
        Check.due("need", x.pipe(0, 23, 0), 40);
        Check.due("offset", x.pipe(0, 23, 1), 4);
        Check.due("asks for 40 * 72 / 80", x.pipe(0, 23, 2), 36);
        Check.due("gets", x.pipe(0, 23, 3), 36);
        Check.due("pitch", x.pipe(0, 23, 4), 4 - 2);
        Check.due("5", x.pipe(0, 23, 5), BAD_VALUE);
        OrganWind y = Organs.scarce();
        Organs.sound(y, 0, 0, 40);
        Organs.sound(y, 1, 0, 40);
        Organs.sound(y, 2, 0, 40);
        Check.due("asks for more", y.pipe(2, 23, 2), 4);
        Check.due("than it gets", y.pipe(2, 23, 3), 2);
    }

    private static void pipeReturns() {
        OrganWind x = new OrganWind();
        Check.sentence("Promise 17", "Returns this number; BAD_INDEX; BAD_VALUE; NONE if it is not open (but not for 0 and"
                + " 1).");
        Check.due("need", x.pipe(7, 23, 0), 18);
        Check.due("offset", x.pipe(7, 23, 1), 0);
        for (int what = 2; what <= 4; what++) {
            Check.due("not drawn", x.pipe(7, 23, what), NONE);
        }
        x.draw(7, true);
        x.press(0, 23, true);
        for (int what = 2; what <= 4; what++) {
            Check.due("no key of its manual", x.pipe(7, 23, what), NONE);
        }
        x.layOut(7, 1, 40, 200);
        x.press(1, 23, true);
        Check.due("open, though it does not speak", x.pipe(7, 23, 3), 38);
        for (int bad : OUTSIDE) {
            Check.due("stop", x.pipe(bad, 0, 0), BAD_INDEX);
            Check.due("key", x.pipe(0, bad, 0), BAD_INDEX);
            Check.due("what", x.pipe(0, 0, bad), BAD_VALUE);
            Check.due("what, of an open one", x.pipe(7, 23, bad), BAD_VALUE);
            Check.due("all", x.pipe(bad, bad, bad), BAD_INDEX);
        }
    }

    private static void reason() {
        OrganWind x = new OrganWind();
        x.draw(0, true);
        x.draw(7, true);
        Check.sentence("Promise 18", "- `stop`: 0 to 7");
        Check.due("-1", x.reason(-1, 0), BAD_INDEX);
        Check.due("0", x.reason(0, 0), 2);
        Check.due("7", x.reason(7, 0), 2);
        Check.due("8", x.reason(8, 0), BAD_INDEX);
        Check.sentence("Promise 18", "- `key`: 0 to 23");
        Check.due("-1", x.reason(0, -1), BAD_INDEX);
        x.press(0, 0, true);
        x.cipher(0, 23, true);
        Check.due("0", x.reason(0, 0), 0);
        Check.due("23", x.reason(0, 23), 0);
        Check.due("24", x.reason(0, 24), BAD_INDEX);
        Check.sentence("Promise 18", "Returns 1 if its stop is not drawn, 2 if its key does not act on its manual and it"
                + " does not cipher, 3 if the pressure of its chest is less than its stop's least one, 4 if it does not"
                + " get what it asks for, 5 if it asks for 0; 0 if it speaks; BAD_INDEX.");
        for (int bad : OUTSIDE) {
            Check.due("stop", x.reason(bad, 0), BAD_INDEX);
            Check.due("key", x.reason(0, bad), BAD_INDEX);
        }
        Check.due("not drawn", x.reason(1, 0), 1);
        Check.due("no key", x.reason(0, 1), 2);
        x.layOut(0, 0, 5, 79);
        Check.due("the pressure is its least one", x.reason(0, 0), 0);
        x.layOut(0, 0, 5, 80);
        Check.due("the pressure is less", x.reason(0, 0), 3);
        OrganWind y = Organs.scarce();
        Organs.sound(y, 0, 0, 40);
        Organs.sound(y, 1, 0, 40);
        Organs.sound(y, 2, 0, 20);
        Check.due("it gets what it asks for", y.reason(2, 23), 0);
        y.layOut(2, 0, 30, 0);
        Check.due("it gets one less", y.reason(2, 23), 4);
        y.layOut(2, 0, 9, 0);
        Check.due("it asks for 0", y.reason(2, 23), 5);
        y.layOut(2, 0, 10, 0);
        Check.due("it asks for 1", y.reason(2, 23), 0);
    }

    private static void reasonInOrder() {
        Check.sentence("Promise 18", "Tells why a pipe does not speak: the first reason of these that holds.");
        OrganWind x = Organs.holding(0);
        x.layOut(0, 0, 40, 200);
        Check.due("1 to 3 and 5", x.reason(0, 23), 1);
        x.cipher(0, 23, true);
        Check.due("1, 3 and 5", x.reason(0, 23), 1);
        x.draw(0, true);
        Check.due("3 and 5", x.reason(0, 23), 3);
        x.cipher(0, 23, false);
        x.press(1, 23, true);
        Check.due("2, 3 and 5", x.reason(0, 23), 2);
        x.press(0, 23, true);
        Check.due("3 and 5, by its key", x.reason(0, 23), 3);
        x.layOut(0, 0, 40, 0);
        Check.due("5 alone", x.reason(0, 23), 5);
        OrganWind y = Organs.scarce();
        Organs.sound(y, 0, 0, 40);
        Organs.sound(y, 1, 0, 40);
        Organs.sound(y, 2, 0, 40);
        Check.due("4 alone", y.reason(2, 23), 4);
        y.layOut(2, 0, 40, 21);
        Check.due("3 and 4", y.reason(2, 23), 3);
        y.layOut(2, 0, 40, 20);
        Check.due("4 alone", y.reason(2, 23), 4);
    }
}
