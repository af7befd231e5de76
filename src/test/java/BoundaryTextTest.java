/** The sentences of "Description", the paragraph of the text, at their boundaries. */
public final class BoundaryTextTest {
    private static final String TEXT = "The text";
    private static final int FULL = -1000004;
    private static final int NO_FAULT = -1000005;

    public static void main(String[] args) {
        atMost80();
        acts();
        drawnAndRetired();
        pressedAndReleased();
        ticks();
        numbers();
        firstByteAtFault();
        endsTooEarly();
        numbersOutOfRange();
        Check.end();
    }

    private static int faultOf(String text) {
        OrganWind x = new OrganWind();
        Organs.write(x, text);
        return x.faultPosition();
    }

    private static void fault(String text, int position) {
        Check.due("fault position of " + text, faultOf(text), position);
    }

    /** The fault position of a text with each byte put behind it; those from first to last give another one. */
    private static void eachByteBehind(String text, char first, char last, int withThese, int withOthers) {
        for (char letter = 0; letter < 128; letter++) {
            boolean isOne = letter >= first && letter <= last;
            Check.due(text + " and byte " + (int) letter, faultOf(text + letter), isOne ? withThese : withOthers);
        }
    }

    private static void atMost80() {
        Check.sentence(TEXT, "The text has at most 80 bytes.");
        OrganWind x = new OrganWind();
        for (int i = 0; i < 79; i++) {
            x.append("dr".charAt(i % 2));
        }
        Check.due("the 80th", x.append('d'), 80);
        Check.due("an 81st", x.append('d'), FULL);
        Check.due("it has 80", x.clearText(), 80);
        OrganWind y = new OrganWind();
        Organs.write(y, "d0".repeat(39) + "r0" + "d1");
        Check.due("40 acts", y.play(), 40);
        Check.due("the last of them is carried out", y.stop(0, 3), 0);
        Check.due("and none behind it", y.stop(1, 3), 0);
        fault("d0".repeat(39) + "d8", 79);
        fault("d0".repeat(39) + "t2", 80);
        fault("d0".repeat(38) + "t20;", NO_FAULT);
        fault("d0".repeat(38) + "t200", 80);
        fault("d0".repeat(39) + "d", 79);
    }

    private static void acts() {
        Check.sentence(TEXT, "It tells acts, perhaps none:");
        fault("", NO_FAULT);
        OrganWind x = new OrganWind();
        Check.due("no acts", x.play(), 0);
        Organs.write(x, "d0r0p00;l00;t1;");
        Check.due("five acts", x.play(), 5);
    }

    private static void drawnAndRetired() {
        Check.sentence(TEXT, "d and the digit of a stop (it is drawn), r and the digit of a stop (it is retired),");
        eachByteBehind("d", '0', '7', NO_FAULT, 1);
        eachByteBehind("r", '0', '7', NO_FAULT, 1);
        OrganWind x = new OrganWind();
        Organs.write(x, "d0d7");
        x.play();
        Check.due("stop 0 is drawn", x.stop(0, 3), 1);
        Check.due("stop 7 is drawn", x.stop(7, 3), 1);
        Organs.write(x, "r7");
        x.play();
        Check.due("stop 0 is drawn", x.stop(0, 3), 1);
        Check.due("stop 7 is retired", x.stop(7, 3), 0);
        fault("d0;", 2);
        Organs.write(x, "p05;d0p15;r1");
        x.play();
        Check.due("a key stays pressed", x.chest(0, 2), 1 << 5);
        Check.due("and the other one", x.chest(1, 2), 1 << 5);
        Check.due("no tick passes", x.tell(2), 0);
    }

    private static void pressedAndReleased() {
        Check.sentence(TEXT, "p, the digit of a manual, the number of a key and a semicolon (the key is pressed),"
                + " l likewise (it is released),");
        for (String act : new String[] {"p", "l"}) {
            eachByteBehind(act, '0', '1', 2, 1);
            eachByteBehind(act + "0", '0', '9', 3, 2);
            for (int key = 0; key < 1000; key++) {
                fault(act + "1" + key + ";", key < 24 ? NO_FAULT : 2);
            }
            eachByteBehind(act + "00", ';', ';', NO_FAULT, 3);
        }
        OrganWind x = new OrganWind();
        Organs.write(x, "p00;p023;p10;p123;l00;l123;");
        Check.due("six acts", x.play(), 6);
        Check.due("keys of 0", x.chest(0, 2), 1 << 23);
        Check.due("keys of 1", x.chest(1, 2), 1);
        Check.due("no stop is drawn", x.draw(5, true), 1);
        Check.due("no tick passes", x.tell(2), 0);
    }

    private static void ticks() {
        Check.sentence(TEXT, "and t, a number of ticks from 1 to 200 and a semicolon (so many ticks pass).");
        for (int number = 0; number < 1000; number++) {
            fault("t" + number + ";", number >= 1 && number <= 200 ? NO_FAULT : 1);
        }
        eachByteBehind("t200", ';', ';', NO_FAULT, 4);
        eachByteBehind("t", '1', '9', 2, 1);
        OrganWind x = new OrganWind();
        Organs.write(x, "t1;");
        x.play();
        Check.due("one tick", x.tell(2), 1);
        Organs.write(x, "t200;t9;");
        x.play();
        Check.due("209 more", x.tell(2), 210);
        Check.due("no key is pressed", x.chest(0, 2) + x.chest(1, 2), 0);
        Check.due("no stop is drawn", x.draw(5, true), 1);
    }

    private static void numbers() {
        Check.sentence(TEXT, "Numbers have 1 to 3 digits, the first one not 0 unless it is the only one.");
        fault("t;", 1);
        fault("t9;", NO_FAULT);
        fault("t99;", NO_FAULT);
        fault("t199;", NO_FAULT);
        fault("t1999;", 4);
        fault("t1000;", 4);
        fault("p0;", 2);
        fault("p00;", NO_FAULT);
        fault("p000;", 3);
        fault("p007;", 3);
        fault("l1023;", 3);
        fault("t01;", 1);
    }

    private static void firstByteAtFault() {
        Check.sentence(TEXT, "The fault position is the index, counted from 0, of the first byte with which the text"
                + " does not follow this form,");
        for (char letter = 0; letter < 128; letter++) {
            boolean isAct = "drplt".indexOf(letter) >= 0;
            fault("" + letter, isAct ? 1 : 0);
            fault("d0t10;" + letter + "0", !isAct ? 6 : letter == 't' ? 7 : letter == 'd' || letter == 'r' ? NO_FAULT : 8);
        }
        fault("x", 0);
        fault("d8x", 1);
        fault("d0x8", 2);
        fault("p0x;", 2);
        fault("p05,x", 3);
        fault("t1;;", 3);
        fault("d0 d1", 2);
    }

    private static void endsTooEarly() {
        Check.sentence(TEXT, "or its length if it ends too early;");
        String whole = "d0r7p05;l123;t200;";
        int[] ends = {0, 2, 4, 8, 13, 18};
        for (int length = 0; length <= whole.length(); length++) {
            boolean isWhole = false;
            for (int end : ends) {
                isWhole |= end == length;
            }
            fault(whole.substring(0, length), isWhole ? NO_FAULT : length);
        }
    }

    private static void numbersOutOfRange() {
        Check.sentence(TEXT, "a number, that is, the digits that stand there, but three at most (0 alone, if the first"
                + " one is 0), that is out of its range is a fault at its first digit.");
        fault("t201", 1);
        fault("t201x", 1);
        fault("t2010;", 1);
        fault("t2000;", 4);
        fault("t999", 1);
        fault("t0", 1);
        fault("t0;", 1);
        fault("t05;", 1);
        fault("t000;", 1);
        fault("t0x", 1);
        fault("p024", 2);
        fault("p024;", 2);
        fault("p0240;", 2);
        fault("p0230;", 2);
        fault("p02x", 3);
        fault("p023x", 4);
        fault("p099x", 2);
        fault("p1100", 2);
        fault("p0024;", 3);
        fault("l024;", 2);
        fault("l1999;", 2);
        fault("d0p024;", 4);
    }
}
