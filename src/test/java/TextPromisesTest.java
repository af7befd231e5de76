/** Promises 10 to 13: append, clearText, faultPosition, play. */
public final class TextPromisesTest {
    private static final int NO_FAULT = -1000005;

    public static void main(String[] args) {
        append();
        goodTexts();
        faultsOfForm();
        faultsOfNumbers();
        textsThatEndTooEarly();
        clearedTextIsGone();
        play();
        playLongest();
        playErrors();
        textIsNoState();
        Check.end();
    }

    private static void write(OrganWind x, String text) {
        x.clearText();
        for (int i = 0; i < text.length(); i++) {
            Check.due("append in " + text, x.append(text.charAt(i)), i + 1);
        }
    }

    private static void fault(String text, int position) {
        OrganWind x = new OrganWind();
        write(x, text);
        Check.due("faultPosition of " + text, x.faultPosition(), position);
        Check.due("play " + text + " is possible", x.play() == -1000003 ? 0 : 1, position == NO_FAULT ? 1 : 0);
    }

    private static void append() {
        OrganWind x = new OrganWind();
        Check.due("append 0", x.append(0), 1);
        Check.due("append 127", x.append(127), 2);
        Check.due("append -1", x.append(-1), -1000002);
        Check.due("append 128", x.append(128), -1000002);
        Check.due("append least", x.append(Integer.MIN_VALUE), -1000002);
        Check.due("append most", x.append(Integer.MAX_VALUE), -1000002);
        for (int length = 3; length <= 80; length++) {
            Check.due("append", x.append('d'), length);
        }
        Check.due("append 81st", x.append('d'), -1000004);
        Check.due("bad letter first", x.append(128), -1000002);
        Check.due("clearText", x.clearText(), 80);
        Check.due("clearText again", x.clearText(), 0);
        Check.due("append after it", x.append('d'), 1);
        Check.due("text is not recorded", x.undo(), -1000003);
    }

    private static void goodTexts() {
        fault("", NO_FAULT);
        for (char digit = '0'; digit <= '7'; digit++) {
            fault("d" + digit, NO_FAULT);
            fault("r" + digit, NO_FAULT);
        }
        for (int key = 0; key <= 23; key++) {
            fault("p0" + key + ";", NO_FAULT);
            fault("l1" + key + ";", NO_FAULT);
        }
        fault("t1;", NO_FAULT);
        fault("t10;t99;t100;t199;t200;", NO_FAULT);
        fault("d0p00;r0l123;t9;", NO_FAULT);
    }

    private static void faultsOfForm() {
        fault("x", 0);
        fault(";", 0);
        fault(" d0", 0);
        fault("D0", 0);
        fault("0", 0);
        fault("d8", 1);
        fault("d9", 1);
        fault("dd", 1);
        fault("d/", 1);
        fault("r8", 1);
        fault("d0;", 2);
        fault("d00", 2);
        fault("p2", 1);
        fault("px", 1);
        fault("p;", 1);
        fault("p0;", 2);
        fault("p0x", 2);
        fault("p1d", 2);
        fault("p05x", 3);
        fault("p05d0", 3);
        fault("p012x;", 4);
        fault("p00 ;", 3);
        fault("p003;", 3);
        fault("p000;", 3);
        fault("l2", 1);
        fault("l1:", 2);
        fault("t;", 1);
        fault("t-1;", 1);
        fault("t1x", 2);
        fault("t200x", 4);
        fault("t2000;", 4);
        fault("t1000;", 4);
        fault("t1;;", 3);
        fault("d0t1;p0", 7);
        fault("t1;t0;", 4);
    }

    private static void faultsOfNumbers() {
        fault("t0;", 1);
        fault("t0", 1);
        fault("t00;", 1);
        fault("t05;", 1);
        fault("t0x", 1);
        fault("t201;", 1);
        fault("t201", 1);
        fault("t999", 1);
        fault("t2010;", 1);
        fault("t300x", 1);
        fault("p024;", 2);
        fault("p024", 2);
        fault("p030x", 2);
        fault("p199", 2);
        fault("p0100;", 2);
        fault("p02300;", 2);
        fault("l099;", 2);
        fault("d1l124;", 4);
    }

    private static void textsThatEndTooEarly() {
        fault("d", 1);
        fault("r", 1);
        fault("p", 1);
        fault("p0", 2);
        fault("p00", 3);
        fault("p02", 3);
        fault("p023", 4);
        fault("l1", 2);
        fault("l19", 3);
        fault("t", 1);
        fault("t2", 2);
        fault("t20", 3);
        fault("t200", 4);
        fault("d0r0t7", 6);
    }

    private static void clearedTextIsGone() {
        OrganWind x = new OrganWind();
        write(x, "p012;");
        write(x, "p");
        Check.due("manual is gone", x.faultPosition(), 1);
        write(x, "p0");
        Check.due("key is gone", x.faultPosition(), 2);
        write(x, "p01");
        Check.due("digit is gone", x.faultPosition(), 3);
        write(x, "p012");
        Check.due("semicolon is gone", x.faultPosition(), 4);
    }

    private static void play() {
        OrganWind x = new OrganWind();
        write(x, "d0d2p03;p07;t5;r2l07;t5;p123;");
        Check.due("play", x.play(), 9);
        Check.due("drawn", x.stop(0, 3), 1);
        Check.due("retired", x.stop(2, 3), 0);
        Check.due("pressed", x.chest(0, 2), 1 << 3);
        Check.due("pressed on 1", x.chest(1, 2), 1 << 23);
        Check.due("time", x.tell(2), 10);
        int pressure = 80 - (9 + 8 + 13 + 12) * 10 / 100;
        int first = 9 * pressure / 80 + 8 * pressure / 80;
        int third = 13 * pressure / 80 + 12 * pressure / 80;
        Check.due("wind of stop 0", x.stop(0, 4), 5 * first + 5 * 9);
        Check.due("wind of stop 2", x.stop(2, 4), 5 * third);
        Check.due("the text stays", x.faultPosition(), NO_FAULT);
        Check.due("play again", x.play(), 9);
        Check.due("time then", x.tell(2), 20);
        Check.due("recorded as one call", x.undo(), 1);
        Check.due("time before", x.tell(2), 10);
        Check.due("and the other one", x.undo(), 0);
        Check.due("nothing drawn before", x.stop(0, 3), 0);
        Check.due("clearText", x.clearText(), 29);
        Check.due("play nothing", x.play(), 0);
        Check.due("is recorded", x.undo(), 0);
    }

    private static void playLongest() {
        OrganWind x = new OrganWind();
        StringBuilder longest = new StringBuilder();
        for (int i = 0; i < 40; i++) {
            longest.append(i % 2 == 0 ? "d" : "r").append(i % 8);
        }
        write(x, longest.toString());
        Check.due("play 40 acts", x.play(), 40);
        for (int stop = 0; stop < 8; stop++) {
            Check.due("drawn", x.stop(stop, 3), 1 - stop % 2);
        }
        write(x, "t200;".repeat(16));
        Check.due("play 16 acts", x.play(), 16);
        Check.due("time", x.tell(2), 3200);
    }

    private static void playErrors() {
        OrganWind x = new OrganWind();
        write(x, "d0t5;d8");
        long before = x.checksum();
        Check.due("play with a fault", x.play(), -1000003);
        Check.due("nothing is carried out", x.checksum(), before);
        Check.due("nothing is recorded", x.undo(), -1000003);
        Check.due("the text stays", x.clearText(), 7);
    }

    private static void textIsNoState() {
        OrganWind x = new OrganWind();
        x.save(0);
        x.draw(1, true);
        write(x, "d5");
        x.undo();
        Check.due("undo keeps the text", x.play(), 1);
        x.restore(0);
        Check.due("restore keeps the text", x.clearText(), 2);
    }
}
