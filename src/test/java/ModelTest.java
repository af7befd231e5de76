import java.util.Random;

/** Long runs of calls, each answer held against that of the plain organ. */
public final class ModelTest {
    private static final int MOST_CALLS = 512;
    private static final String[] GOOD_PHRASES = {
        "d0", "d1", "d2", "d3", "d4", "d6", "d7", "r1", "r5", "p00;", "p03;", "p012;", "p123;", "p13;", "l00;", "l13;",
        "t1;", "t3;", "t9;", "t10;", "t99;", "t100;", "t200;"};
    private static final String[] PHRASES = {
        "d0", "d3", "r1", "d7", "p00;", "p012;", "p123;", "l00;", "l15;", "t1;", "t7;", "t20;", "t200;",
        "t201;", "t0;", "t05;", "p024;", "p2", "d8", "x", "", "p1", "t", "t1", "t12", "t2000;", "p1240", "p00",
        "l009;", "d", "r", "t300", "p19;", "p110;"};

    private final Random random;
    private final OrganWind made = new OrganWind();
    private final PlainOrgan plain = new PlainOrgan();
    private final int wildness;
    private final Kind kindOfRun;
    private final StringBuilder told = new StringBuilder();
    private int unsaid = 0;
    private int calls = 0;

    /** ANY: all values alike; LIVELY: most pipes speak; SCARCE: there is little wind. */
    private enum Kind { ANY, LIVELY, SCARCE }

    private ModelTest(int seed) {
        random = new Random(seed);
        kindOfRun = Kind.values()[seed % 3];
        wildness = random.nextInt(3) == 0 ? 10 : 100;
    }

    public static void main(String[] args) {
        for (int run = 0; run < 600; run++) {
            if (!new ModelTest(run).run(run)) {
                System.exit(1);
            }
        }
        System.out.println("600 runs answered as the plain organ does");
    }

    private boolean run(int run) {
        while (calls < MOST_CALLS) {
            if (!oneCall()) {
                System.out.println("run " + run + ", call " + calls + ":" + told);
                return false;
            }
        }
        return true;
    }

    /** Now and then a number out of the range, or far out of it. */
    private int pick(int least, int most) {
        if (random.nextInt(wildness) == 0) {
            int[] wild = {least - 1, most + 1, -1, Integer.MIN_VALUE, Integer.MAX_VALUE, 1000, -1000};
            return wild[random.nextInt(wild.length)];
        }
        int kind = random.nextInt(10);
        return kind == 0 ? least : kind == 1 ? most : least + random.nextInt(most - least + 1);
    }

    private int pickKey() {
        int[] few = {0, 3, 11, 12, 15, 23};
        return kindOfRun == Kind.ANY || random.nextInt(10) == 0 ? pick(0, 23) : few[random.nextInt(few.length)];
    }

    private int pickValue(int setting) {
        int[] least = {20, 0, 0, 100, 1000, 0, 10, 1, 0};
        int[] most = {200, 100, 100, 2000, 20000, 20000, 500, 8, 32};
        if (setting < 0 || setting > 8) {
            return pick(0, 100);
        }
        if (kindOfRun != Kind.ANY && (setting == 1 || setting == 2)) {
            return pick(0, 8);
        }
        if (kindOfRun == Kind.LIVELY && setting == 0) {
            return pick(80, 200);
        }
        if (kindOfRun == Kind.SCARCE && random.nextInt(10) != 0) {
            int[] scarce = {200, 0, 0, 100, 1000, 150, 40, 8, 32};
            return scarce[setting];
        }
        return pick(least[setting], most[setting]);
    }

    private boolean coin() {
        return random.nextBoolean();
    }

    private boolean same(String call, long got, long want) {
        calls++;
        if (told.length() > 4000) {
            told.setLength(0);
            told.append("\n..");
        }
        told.append("\n").append(call).append(" answered ").append(got).append(", due is ").append(want);
        return got == want;
    }

    private boolean oneCall() {
        int kind = random.nextInt(100);
        if (unsaid > 0) {
            return appendRest();
        }
        if (kind < 52) {
            return change(kind);
        }
        return kind < 56 ? words(kind) : ask(kind);
    }

    private String phrase = "";

    private boolean appendRest() {
        int letter = phrase.charAt(phrase.length() - unsaid);
        unsaid--;
        return same("append(" + letter + ")", made.append(letter), plain.append(letter));
    }

    private boolean change(int kind) {
        int stop = pick(0, 7);
        int key = pickKey();
        int manual = pick(0, 1);
        boolean on = random.nextInt(3) != 0;
        if (kind < 8) {
            return same("draw " + stop + on, made.draw(stop, on), plain.draw(stop, on));
        }
        if (kind < 22) {
            return same("press " + manual + "," + key + on, made.press(manual, key, on), plain.press(manual, key, on));
        }
        if (kind < 25) {
            boolean octave = coin();
            return same("couple " + on + octave, made.couple(on, octave), plain.couple(on, octave));
        }
        if (kind < 30) {
            return same("cipher " + stop + "," + key + on, made.cipher(stop, key, on), plain.cipher(stop, key, on));
        }
        if (kind < 36) {
            int ticks = coin() ? pick(1, 200) : pick(1, 9);
            return same("tick " + ticks, made.tick(ticks), plain.tick(ticks));
        }
        if (kind < 41) {
            int setting = pick(0, 8);
            int value = pickValue(setting);
            return same("set " + setting + "," + value, made.set(setting, value), plain.set(setting, value));
        }
        if (kind < 43) {
            int demand = pick(1, 40);
            int least = kindOfRun == Kind.ANY && coin() ? pick(0, 200) : pick(0, 20);
            return same("layOut " + stop + "," + manual + "," + demand + "," + least,
                    made.layOut(stop, manual, demand, least), plain.layOut(stop, manual, demand, least));
        }
        if (kind < 47) {
            for (int tries = 0; tries < 20 && coin() && plain.reason(stop, key) != 0; tries++) {
                stop = pick(0, 7);
                key = pickKey();
            }
            return same("tune " + stop + "," + key, made.tune(stop, key), plain.tune(stop, key));
        }
        if (kind < 49) {
            boolean asDue = true;
            for (int times = random.nextInt(7); times >= 0 && asDue && calls < MOST_CALLS; times--) {
                asDue = same("undo", made.undo(), plain.undo());
            }
            return asDue;
        }
        int slot = pick(0, 1);
        return kind < 51 ? same("save " + slot, made.save(slot), plain.save(slot))
                : same("restore " + slot, made.restore(slot), plain.restore(slot));
    }

    private boolean words(int kind) {
        if (kind == 52 && kindOfRun == Kind.ANY) {
            int letter = coin() ? pick(0, 127) : '0' + random.nextInt(12);
            return same("append " + letter, made.append(letter), plain.append(letter));
        }
        if (kind <= 53) {
            String[] phrases = kindOfRun == Kind.ANY ? PHRASES : GOOD_PHRASES;
            phrase = phrases[random.nextInt(phrases.length)];
            unsaid = phrase.length();
            return same("faultPosition", made.faultPosition(), plain.faultPosition());
        }
        if (kind == 54) {
            return same("play", made.play(), plain.play());
        }
        return random.nextInt(5) != 0 || same("clearText", made.clearText(), plain.clearText());
    }

    private boolean ask(int kind) {
        int stop = pick(0, 7);
        int key = pickKey();
        int manual = pick(0, 1);
        switch (kind) {
            case 60: case 61: case 62: case 63:
                int what = pick(0, 4);
                return same("stop " + stop + "," + what, made.stop(stop, what), plain.stop(stop, what));
            case 64: case 65: case 66: case 67:
                int chestWhat = pick(0, 2);
                return same("chest " + manual + "," + chestWhat, made.chest(manual, chestWhat), plain.chest(manual, chestWhat));
            case 68:
                return same("strokes " + manual, made.strokes(manual), plain.strokes(manual));
            case 69: case 70: case 71: case 72: case 73:
                int pipeWhat = pick(0, 4);
                return same("pipe " + stop + "," + key + "," + pipeWhat, made.pipe(stop, key, pipeWhat), plain.pipe(stop, key, pipeWhat));
            case 74: case 75: case 76: case 77:
                return same("reason " + stop + "," + key, made.reason(stop, key), plain.reason(stop, key));
            case 78: case 79:
                return same("mistuned", made.mistuned(), plain.mistuned());
            case 80: case 81: case 82:
                int searchWhat = pick(0, 2);
                return same("search " + searchWhat, made.search(searchWhat), plain.search(searchWhat));
            case 83: case 84: case 85:
                return same("robbed " + stop, made.robbed(stop), plain.robbed(stop));
            case 86:
                int ticks = coin() ? pick(1, 1000) : pick(1, 20);
                return same("lowest " + ticks, made.lowest(ticks), plain.lowest(ticks));
            case 87: case 88: case 89:
                return same("faultPosition", made.faultPosition(), plain.faultPosition());
            case 90: case 91: case 92: case 93: case 94: case 95: case 96:
                return same("checksum", made.checksum(), plain.checksum());
            default:
                int number = pick(0, 9);
                return same("tell " + number, made.tell(number), plain.tell(number));
        }
    }
}
