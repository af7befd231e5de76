/** The sentences of "Description", the paragraph of tests, at their boundaries. */
public final class BoundarySearchTest {
    private static final String TESTS = "Tests";
    private static final int NONE = -1000005;

    public static void main(String[] args) {
        heard();
        theseStopsAlone();
        allStopsFirst();
        lowerHalf();
        otherHalf();
        noFurtherTest();
        Check.end();
    }

    private static void heard() {
        Check.sentence(TESTS, "A test of a set of stops hears whether any pipe would speak if just these stops were"
                + " drawn, no key were pressed, and all else (V, settings, ciphers) were as it is;");
        OrganWind x = new OrganWind();
        x.draw(0, true);
        x.press(0, 0, true);
        x.couple(true, true);
        Check.due("no key is heard", x.search(0), NONE);
        x.cipher(7, 0, true);
        Check.due("a cipher is, of a stop that is not drawn", x.search(0), 7);
        x.layOut(7, 0, 4, 80);
        Check.due("with just its least pressure", x.search(0), 7);
        x.layOut(7, 0, 4, 81);
        Check.due("with one less it is not", x.search(0), NONE);
        x.layOut(7, 0, 4, 20);
        x.set(0, 20);
        Check.due("W is as it is", x.search(0), 7);
        x.layOut(7, 0, 4, 21);
        Check.due("and too little then", x.search(0), NONE);
        x.layOut(7, 0, 5, 0);
        x.set(1, 100);
        Check.due("asks for 10 * 10 / 20", x.search(0), 7);
        x.layOut(7, 0, 15, 0);
        Check.due("asks for 20 * 0 / 20", x.search(0), NONE);
        OrganWind drawn = new OrganWind();
        drawn.cipher(7, 0, true);
        drawn.draw(7, true);
        Check.due("stop 7 sounds", drawn.tell(7), 1);
        Check.due("but in no test of other stops", drawn.search(0), 7);
        OrganWind empty = Organs.holding(0);
        empty.cipher(3, 3, true);
        Check.due("V is as it is", empty.search(0), NONE);
        empty.layOut(3, 1, 40, 0);
        empty.set(2, 0);
        empty.set(5, 1);
        empty.tick(1);
        Check.due("and a little suffices", empty.search(0), 3);
    }

    /** Stops that are drawn, and keys that are pressed, take no wind from the pipes that are tested. */
    private static void theseStopsAlone() {
        Check.sentence(TESTS, "pressures and flows are those of these stops alone.");
        OrganWind x = new OrganWind();
        x.set(1, 100);
        x.layOut(0, 0, 40, 0);
        x.draw(0, true);
        x.press(0, 0, true);
        x.press(0, 1, true);
        Check.due("no pressure is left for others", x.chest(0, 0), 0);
        x.layOut(6, 0, 10, 70);
        x.cipher(6, 23, true);
        Check.due("but there is for a test", x.search(0), 6);
        x.layOut(6, 0, 10, 71);
        Check.due("less its own needs", x.search(0), NONE);
        x.layOut(6, 0, 10, 60);
        x.layOut(4, 0, 10, 61);
        x.cipher(4, 23, true);
        Check.due("all: stop 6 alone, half: stop 4", x.search(0), 4);
        x.layOut(4, 0, 11, 61);
        Check.due("all: none, as they rob one another", x.search(0), NONE);
        OrganWind y = Organs.scarce();
        Organs.sound(y, 0, 1, 40);
        Organs.sound(y, 1, 1, 40);
        y.cipher(0, 23, false);
        y.cipher(1, 23, false);
        y.press(1, 22, true);
        y.layOut(2, 0, 40, 0);
        y.cipher(2, 23, true);
        Check.due("two are left for it", y.tell(0) - y.pipe(0, 22, 3) - y.pipe(1, 22, 3), 2);
        Check.due("which asks for four, but alone gets them", y.search(0), 2);
    }

    private static void allStopsFirst() {
        Check.sentence(TESTS, "The search for ciphers first tests all stops; if nothing is heard, it ends.");
        OrganWind x = new OrganWind();
        Check.due("no stop", x.search(0), NONE);
        Check.due("one test", x.search(1), 1);
        Check.due("no key", x.search(2), NONE);
        x.set(1, 100);
        x.layOut(0, 0, 10, 70);
        x.layOut(2, 0, 10, 70);
        x.cipher(0, 23, true);
        Check.due("stop 0", x.search(0), 0);
        x.cipher(2, 23, true);
        Check.due("heard alone, but not with all", x.search(0), NONE);
        Check.due("one test", x.search(1), 1);
        Check.due("no key", x.search(2), NONE);
    }

    private static void lowerHalf() {
        Check.sentence(TESTS, "Otherwise it halves the row of stops in which there is one, at first 0 to 7: it tests the"
                + " lower half of it (of n stops the n / 2 lower ones);");
        for (int lower = 0; lower < 8; lower++) {
            for (int upper = lower; upper < 8; upper++) {
                OrganWind x = new OrganWind();
                x.cipher(upper, 7, true);
                x.cipher(lower, 9, true);
                Check.due("stop of " + lower + " and " + upper, x.search(0), lower);
            }
        }
    }

    private static void otherHalf() {
        Check.sentence(TESTS, "if something is heard, it goes on with this half, otherwise with the other one,"
                + " until one stop is left.");
        int[] quarters = {0, 2, 4, 6};
        for (int first : quarters) {
            OrganWind x = new OrganWind();
            x.cipher(first + 1, 0, true);
            Check.due("the other stop", x.search(0), first + 1);
            x.cipher(first, 0, true);
            Check.due("this stop", x.search(0), first);
        }
        OrganWind x = Organs.heardOnlyWithAll();
        Check.due("all are heard", x.search(1), 4);
        Check.due("no half is: always the other one", x.search(0), 7);
        Check.due("in which no pipe ciphers", x.search(2), NONE);
    }

    private static void noFurtherTest() {
        Check.sentence(TESTS, "(No further test is made then.)");
        for (int stop = 0; stop < 8; stop++) {
            OrganWind x = new OrganWind();
            x.cipher(stop, 23, true);
            Check.due("tests until stop " + stop, x.search(1), 4);
        }
    }
}
