/** Promises 19 to 23: tune, mistuned, search, robbed, lowest. */
public final class QuestionPromisesTest {
    private static final int[] OUTSIDE = {Integer.MIN_VALUE, -1000000, -1, Integer.MAX_VALUE};
    private static final int NONE = -1000005;

    public static void main(String[] args) {
        tune();
        tuneEdge();
        tuneErrors();
        mistuned();
        search();
        searchEachStop();
        searchHearsTheStopsAlone();
        searchFindsAStopWithoutCiphers();
        robbed();
        robbedErrors();
        lowest();
        lowestErrors();
        Check.end();
    }

    private static void tune() {
        OrganWind x = new OrganWind();
        x.draw(0, true);
        x.draw(2, true);
        x.press(0, 0, true);
        Check.due("pitch", x.pipe(0, 0, 4), -1);
        Check.due("tune", x.tune(0, 0), 0);
        Check.due("offset", x.pipe(0, 0, 1), 1);
        Check.due("pitch is 0", x.pipe(0, 0, 4), 0);
        Check.due("the other one stays", x.pipe(2, 0, 4), -1);
        x.set(8, 32);
        Check.due("pitch, steep", x.pipe(0, 0, 4), 1 - 4);
        Check.due("tune again", x.tune(0, 0), 1);
        Check.due("offset, steep", x.pipe(0, 0, 1), 4);
        Check.due("and again", x.tune(0, 0), 4);
        Check.due("tune is recorded", x.undo(), 4);
        x.undo();
        Check.due("offset before", x.pipe(0, 0, 1), 1);
    }

    /** The greatest offset is 200: 100 of pressure are lacking, with a slope of 32. */
    private static void tuneEdge() {
        OrganWind x = new OrganWind();
        x.set(0, 200);
        x.set(1, 100);
        x.set(8, 32);
        x.layOut(0, 0, 40, 0);
        x.layOut(2, 0, 20, 0);
        x.draw(0, true);
        x.draw(2, true);
        x.press(0, 23, true);
        x.press(0, 22, true);
        x.draw(2, false);
        x.press(0, 21, true);
        Check.due("needs", x.chest(0, 1), 120);
        Check.due("pitch", x.pipe(0, 23, 4), -240);
        Check.due("out of the range", x.tune(0, 23), -1000003);
        x.press(0, 21, false);
        x.draw(2, true);
        x.press(0, 22, false);
        x.layOut(2, 0, 40, 0);
        x.layOut(4, 0, 20, 0);
        x.draw(4, true);
        Check.due("needs", x.chest(0, 1), 100);
        Check.due("just in it", x.tune(0, 23), 0);
        Check.due("offset", x.pipe(0, 23, 1), 200);
        x.layOut(4, 0, 21, 0);
        Check.due("pitch", x.pipe(0, 23, 4), -2);
        Check.due("just out of it", x.tune(0, 23), -1000003);
        Check.due("offset stays", x.pipe(0, 23, 1), 200);
        x.layOut(4, 0, 27, 0);
        x.set(8, 30);
        x.layOut(2, 0, 39, 0);
        Check.due("pitch, 106 lacking", x.pipe(0, 23, 4), 200 - 199);
        Check.due("199", x.tune(0, 23), 200);
        x.layOut(2, 0, 40, 0);
        Check.due("pitch, 107 lacking", x.pipe(0, 23, 4), 199 - 201);
        Check.due("201 is out of it", x.tune(0, 23), -1000003);
        Check.due("offset stays", x.pipe(0, 23, 1), 199);
    }

    private static void tuneErrors() {
        OrganWind x = new OrganWind();
        for (int bad : OUTSIDE) {
            Check.due("tune stop", x.tune(bad, 0), -1000001);
            Check.due("tune key", x.tune(0, bad), -1000001);
        }
        Check.due("tune stop 8", x.tune(8, 0), -1000001);
        Check.due("tune key 24", x.tune(0, 24), -1000001);
        Check.due("tune a shut pipe", x.tune(0, 0), -1000003);
        Check.due("errors are not recorded", x.undo(), -1000003);
        x.layOut(0, 0, 4, 81);
        x.draw(0, true);
        x.press(0, 0, true);
        Check.due("tune a pipe without pressure", x.tune(0, 0), -1000003);
        Check.due("three are recorded", x.undo(), 2);
    }

    private static void mistuned() {
        OrganWind x = new OrganWind();
        Check.due("nothing speaks", x.mistuned(), NONE);
        x.draw(1, true);
        Check.due("nothing speaks without a key", x.mistuned(), NONE);
        x.press(1, 0, true);
        Check.due("one speaks", x.mistuned(), 0);
        x.press(1, 1, true);
        Check.due("two alike", x.mistuned(), 0);
        x.tune(1, 0);
        int difference = 1;
        Check.due("one tuned", x.mistuned(), difference);
        x.draw(0, true);
        x.press(0, 23, true);
        Check.due("three", x.mistuned(), difference);
        x.set(2, 100);
        x.set(8, 32);
        int lack = 22 * 100 / 100;
        Check.due("pitch on manual 1", x.pipe(1, 1, 4), -2 * lack);
        Check.due("pitch on manual 0", x.pipe(0, 23, 4), 0);
        Check.due("far apart", x.mistuned(), 2 * lack);
        x.layOut(1, 1, 6, 100);
        Check.due("only those that speak", x.mistuned(), 0);
        x.layOut(0, 0, 4, 100);
        Check.due("none speaks", x.mistuned(), NONE);
    }

    private static void search() {
        OrganWind x = new OrganWind();
        Check.due("nothing is found", x.search(0), NONE);
        Check.due("one test", x.search(1), 1);
        Check.due("no key", x.search(2), NONE);
        x.draw(0, true);
        x.press(0, 0, true);
        x.couple(true, true);
        Check.due("keys are not heard", x.search(0), NONE);
        x.cipher(6, 20, true);
        x.cipher(6, 9, true);
        Check.due("found, though not drawn", x.search(0), 6);
        Check.due("four tests", x.search(1), 4);
        Check.due("lowest key", x.search(2), 9);
        x.cipher(3, 23, true);
        Check.due("the lower half first", x.search(0), 3);
        Check.due("its key", x.search(2), 23);
        x.layOut(3, 0, 1, 81);
        Check.due("but only what speaks", x.search(0), 6);
        x.layOut(6, 0, 1, 81);
        Check.due("nothing speaks", x.search(0), NONE);
        Check.due("one test", x.search(1), 1);
        Check.due("no key", x.search(2), NONE);
        for (int bad : OUTSIDE) {
            Check.due("search bad", x.search(bad), -1000001);
        }
        Check.due("search 3", x.search(3), -1000001);
        Check.due("nothing is changed", x.stop(0, 3), 1);
        Check.due("nor recorded", x.undo(), 4);
    }

    private static void searchEachStop() {
        for (int stop = 0; stop < 8; stop++) {
            OrganWind x = new OrganWind();
            x.cipher(stop, 0, true);
            Check.due("found", x.search(0), stop);
            Check.due("tests", x.search(1), 4);
            Check.due("key", x.search(2), 0);
        }
    }

    /** Stops 4 and 6 rob one another: together they do not speak, alone they do. */
    private static void searchHearsTheStopsAlone() {
        OrganWind x = new OrganWind();
        x.set(1, 100);
        x.layOut(4, 0, 10, 70);
        x.layOut(6, 0, 10, 70);
        x.cipher(4, 23, true);
        x.cipher(6, 23, true);
        Check.due("all are too many", x.search(0), NONE);
        Check.due("one test", x.search(1), 1);
        x.layOut(0, 0, 10, 60);
        x.cipher(0, 23, true);
        x.layOut(0, 1, 10, 60);
        Check.due("one of manual 1", x.search(0), 0);
        x.cipher(0, 23, false);
        x.layOut(6, 0, 5, 65);
        Check.due("only stop 6 speaks with all, but stop 4 does alone", x.search(0), 4);
    }

    /** What is heard with all stops is heard with neither half, as each pipe asks for more then. */
    private static void searchFindsAStopWithoutCiphers() {
        OrganWind x = new OrganWind();
        x.set(5, 0);
        x.set(3, 100);
        x.set(1, 0);
        x.set(2, 0);
        x.layOut(7, 1, 40, 0);
        x.draw(7, true);
        x.press(1, 23, true);
        Check.due("V", x.tick(72), 120);
        x.layOut(7, 1, 1, 0);
        Check.due("V", x.tick(21), 99);
        x.set(1, 30);
        x.layOut(0, 0, 40, 200);
        x.layOut(1, 1, 40, 0);
        x.layOut(4, 0, 40, 200);
        x.cipher(0, 0, true);
        x.cipher(0, 1, true);
        x.cipher(1, 2, true);
        x.cipher(4, 0, true);
        x.cipher(4, 1, true);
        x.cipher(4, 2, true);
        Check.due("found", x.search(0), 7);
        Check.due("tests", x.search(1), 4);
        Check.due("no pipe of it ciphers", x.search(2), NONE);
    }

    private static void robbed() {
        OrganWind x = new OrganWind();
        x.layOut(0, 0, 4, 80);
        x.draw(0, true);
        x.press(0, 22, true);
        x.press(0, 23, true);
        Check.due("both speak", x.tell(7), 2);
        Check.due("both are robbed", x.robbed(2), 2);
        Check.due("not by the other manual", x.robbed(1), 0);
        x.couple(true, false);
        Check.due("not by the other chest", x.robbed(1), 0);
        x.layOut(1, 0, 1, 0);
        Check.due("10 of need take one", x.robbed(1), 2);
        x.press(0, 22, false);
        Check.due("5 of need take nothing", x.robbed(1), 0);
        x.cipher(1, 0, true);
        Check.due("but a cipher does", x.robbed(1), 1);
        Check.due("nothing is changed", x.stop(1, 3), 0);
        x.layOut(0, 0, 4, 81);
        Check.due("what does not speak is not robbed", x.robbed(2), 0);
        Check.due("robbed is not recorded", x.undo(), 4);
    }

    private static void robbedErrors() {
        OrganWind x = new OrganWind();
        x.draw(7, true);
        for (int bad : OUTSIDE) {
            Check.due("robbed bad", x.robbed(bad), -1000001);
        }
        Check.due("robbed 8", x.robbed(8), -1000001);
        Check.due("robbed by a drawn one", x.robbed(7), -1000003);
        Check.due("robbed by another", x.robbed(6), 0);
    }

    private static void lowest() {
        OrganWind x = new OrganWind();
        Check.due("rises", x.lowest(1), 3030);
        Check.due("rises on", x.lowest(1000), 3030);
        x.set(5, 0);
        x.draw(0, true);
        x.press(0, 0, true);
        Check.due("falls", x.lowest(1), 2991);
        Check.due("falls on", x.lowest(200), 1200);
        Check.due("is lowest at the end", x.lowest(278), 498);
        Check.due("and slower below the low mark", x.lowest(279), 490);
        Check.due("nothing is changed", x.tell(0), 3000);
        Check.due("no time passes", x.tell(2), 0);
        Check.due("no wind is got", x.stop(0, 4), 0);
        x.set(5, 2950);
        int least = Integer.MAX_VALUE;
        int forecast = x.lowest(100);
        for (int i = 0; i < 100; i++) {
            least = Math.min(least, x.tick(1));
        }
        Check.due("as the ticks", forecast, least);
        Check.due("lowest is before the end", x.tell(0) > least ? 1 : 0, 1);
    }

    private static void lowestErrors() {
        OrganWind x = new OrganWind();
        for (int bad : OUTSIDE) {
            Check.due("lowest bad", x.lowest(bad), -1000002);
        }
        Check.due("lowest 0", x.lowest(0), -1000002);
        Check.due("lowest 1001", x.lowest(1001), -1000002);
        Check.due("lowest is not recorded", x.lowest(1000), 3030);
        Check.due("history", x.undo(), -1000003);
    }
}
