import java.util.Random;

/** The sentences of "What it is", and the one of "Not promised" that the rules of the program make testable. */
public final class BoundaryWhatItIsTest {
    private static final String WHAT = "What it is";
    private static final int MOST_CALLS = 512;
    private static final int[] WILD = {-1, 24, 201, Integer.MIN_VALUE, Integer.MAX_VALUE};

    public static void main(String[] args) {
        drawnAndPressed();
        robbing();
        enoughPressure();
        feeders();
        ciphers();
        tuned();
        texts();
        reasons();
        accounts();
        laterCalls();
        Check.end();
    }

    private static void drawnAndPressed() {
        Check.sentence(WHAT, "The wind of an organ. Stops are drawn and keys are pressed on two manuals, with couplers;");
        OrganWind x = new OrganWind();
        x.draw(0, true);
        x.draw(1, true);
        Check.due("no key", x.tell(7), 0);
        x.press(0, 3, true);
        Check.due("a key of manual 0", x.tell(7), 1);
        x.press(1, 4, true);
        Check.due("and one of manual 1", x.tell(7), 2);
        x.couple(true, false);
        Check.due("manual coupler", x.tell(7), 3);
        x.couple(false, true);
        Check.due("octave coupler", x.tell(7), 3);
        x.couple(true, true);
        Check.due("both", x.tell(7), 5);
        x.draw(1, false);
        Check.due("stop 1 is retired", x.tell(7), 2);
        x.press(0, 3, false);
        Check.due("the key is released", x.tell(7), 0);
    }

    /** A chest of which each pipe of stop 0 takes 20, half of its need of 40. */
    private static OrganWind narrow() {
        OrganWind x = new OrganWind();
        x.set(1, 50);
        x.set(5, 0);
        x.layOut(0, 0, 40, 40);
        x.draw(0, true);
        return x;
    }

    private static void robbing() {
        Check.sentence(WHAT, "pipes that are open take wind from their chest and rob each other of pressure;");
        OrganWind x = narrow();
        Check.due("pressure without them", x.chest(0, 0), 80);
        for (int pipes = 1; pipes <= 3; pipes++) {
            x.press(0, 24 - pipes, true);
            Check.due("pressure of the chest", x.chest(0, 0), 80 - 20 * pipes);
            Check.due("wind that the first pipe takes", x.pipe(0, 23, 3), 40 - 10 * pipes);
        }
        Check.due("the other chest", x.chest(1, 0), 80);
        Check.due("V a tick later", x.tick(1), 3000 - 3 * 10);
    }

    private static void enoughPressure() {
        Check.sentence(WHAT, "a pipe speaks only with enough of it, and its pitch goes with it.");
        OrganWind x = narrow();
        for (int pipes = 1; pipes <= 3; pipes++) {
            x.press(0, 24 - pipes, true);
            Check.due("speaks with 60 and 40, not with 20", x.reason(0, 23), pipes < 3 ? 0 : 3);
            Check.due("pitch", x.pipe(0, 23, 4), -10 * pipes);
        }
    }

    private static void feeders() {
        Check.sentence(WHAT, "A reservoir is filled by the strokes of two feeders.");
        OrganWind x = new OrganWind();
        Check.due("a stroke", x.tick(4), 3120);
        Check.due("of feeder 0", x.strokes(0), 1);
        Check.due("not of feeder 1", x.strokes(1), 0);
        Check.due("another stroke", x.tick(4), 3240);
        Check.due("not of feeder 0", x.strokes(0), 1);
        Check.due("of feeder 1", x.strokes(1), 1);
        Check.due("nine strokes until it is filled", x.tick(100), 3000 + 9 * 120);
        Check.due("five of them", x.strokes(0), 5);
        Check.due("and four", x.strokes(1), 4);
    }

    private static void ciphers() {
        Check.sentence(WHAT, "Pipes that cipher sound without a key and are found by tests;");
        OrganWind x = new OrganWind();
        x.draw(5, true);
        x.cipher(5, 7, true);
        Check.due("sounds", x.reason(5, 7), 0);
        Check.due("the others do not", x.tell(7), 1);
        x.draw(5, false);
        Check.due("stop", x.search(0), 5);
        Check.due("tests", x.search(1), 4);
        Check.due("key", x.search(2), 7);
    }

    private static void tuned() {
        Check.sentence(WHAT, "pipes are tuned;");
        OrganWind x = narrow();
        x.press(0, 23, true);
        x.tune(0, 23);
        Check.due("pitch", x.pipe(0, 23, 4), 0);
        Check.due("offset", x.pipe(0, 23, 1), 10);
    }

    private static void texts() {
        Check.sentence(WHAT, "music is read from texts;");
        OrganWind x = new OrganWind();
        Organs.write(x, "d0p03;t4;");
        Check.due("acts", x.play(), 3);
        Check.due("speaks", x.reason(0, 3), 0);
        Check.due("V: a stroke, and four times 9", x.tell(0), 3000 + 120 - 36);
    }

    private static void reasons() {
        Check.sentence(WHAT, "it is told why a pipe does not speak;");
        OrganWind x = new OrganWind();
        Check.due("its stop is not drawn", x.reason(0, 3), 1);
        x.draw(0, true);
        Check.due("its key does not act", x.reason(0, 3), 2);
        x.press(0, 3, true);
        Check.due("it speaks", x.reason(0, 3), 0);
        x.layOut(0, 0, 4, 81);
        Check.due("its pressure is too little", x.reason(0, 3), 3);
    }

    /** That what was there at first and what was made is in the reservoir, was got by pipes, or was spilled. */
    private static void accounts() {
        Check.sentence(WHAT, "all wind is accounted for.");
        for (int seed = 0; seed < 60; seed++) {
            Random random = new Random(seed);
            OrganWind x = new OrganWind();
            for (int calls = 0; calls + 13 <= MOST_CALLS; calls += 13) {
                change(x, random, random.nextInt(8), random.nextInt(24));
                int got = 0;
                for (int stop = 0; stop < 8; stop++) {
                    got += x.stop(stop, 4);
                }
                Check.due("wind that the stops got", x.tell(4), got);
                Check.due("all wind", x.tell(0) + got + x.tell(5), 3000 + x.tell(3));
            }
        }
    }

    private static void laterCalls() {
        Check.sentence("Not promised", "Nothing is promised beyond the answers and state changes described above, and"
                + " nothing about an object after its 512th call.");
        endlessCalls();
        Check.sentence(WHAT, "; what later calls answer is free.");
        endlessCalls();
    }

    /** The answers are free, but by LANGUAGE.md no call may ever throw or fail to end. */
    private static void endlessCalls() {
        Random random = new Random(7);
        OrganWind x = new OrganWind();
        int calls = 0;
        while (calls < 40 * MOST_CALLS) {
            int a = argument(random, 8);
            int b = argument(random, 24);
            change(x, random, a, b);
            ask(x, random, a, b);
            calls += 2;
        }
        Check.due("calls that did not throw", calls, 40 * MOST_CALLS);
    }

    /** One of so many is out of its range. */
    private static int argument(Random random, int range) {
        return random.nextInt(10) == 0 ? WILD[random.nextInt(WILD.length)] : random.nextInt(range);
    }

    private static void change(OrganWind x, Random random, int a, int b) {
        boolean on = random.nextInt(3) > 0;
        switch (random.nextInt(14)) {
            case 0 -> x.layOut(a, b % 2, 1 + random.nextInt(40), random.nextInt(100));
            case 1 -> x.set(a, random.nextInt(1200));
            case 2 -> x.cipher(a, b, on);
            case 3 -> x.draw(a, on);
            case 4 -> x.press(a % 2, b, on);
            case 5 -> x.couple(on, b % 2 == 0);
            case 6 -> x.tick(b);
            case 7 -> x.append("d0p12;t9".charAt(random.nextInt(8)));
            case 8 -> x.play();
            case 9 -> x.tune(a, b);
            case 10 -> x.undo();
            case 11 -> x.restore(a % 3);
            case 12 -> x.save(a % 3);
            default -> x.clearText();
        }
    }

    private static void ask(OrganWind x, Random random, int a, int b) {
        switch (random.nextInt(13)) {
            case 0 -> x.stop(a, b);
            case 1 -> x.faultPosition();
            case 2 -> x.tell(b);
            case 3 -> x.chest(a, b);
            case 4 -> x.strokes(a);
            case 5 -> x.pipe(a, b, a);
            case 6 -> x.reason(a, b);
            case 7 -> x.mistuned();
            case 8 -> x.search(a);
            case 9 -> x.robbed(a);
            case 10 -> x.lowest(b);
            case 11 -> x.append(b);
            default -> x.checksum();
        }
    }
}
