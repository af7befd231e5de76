/** The sentences of "Description", the paragraphs of settings, pressures, flows and pitch, at their boundaries. */
public final class BoundaryWindTest {
    private static final int BAD_INDEX = -1000001;
    private static final int BAD_VALUE = -1000002;
    private static final int NONE = -1000005;

    public static void main(String[] args) {
        settings();
        weight();
        losses();
        lowMark();
        capacity();
        target();
        stroke();
        strokeTime();
        slope();
        firstVolume();
        reservoirPressure();
        chestPressure();
        chestPressureAtLeast0();
        asking();
        orderOfStopsAndKeys();
        whatIsLeft();
        speaking();
        flowsAsVIs();
        pitch();
        Check.end();
    }

    private static void settings() {
        Check.sentence("Settings", "Settings, with their ranges and what they are at first:");
        OrganWind x = new OrganWind();
        Check.due("set(-1)", x.set(-1, 100), BAD_INDEX);
        Check.due("set(9)", x.set(9, 100), BAD_INDEX);
        int[] first = {80, 10, 10, 500, 6000, 4000, 120, 4, 8};
        for (int setting = 0; setting < 9; setting++) {
            Check.due("at first " + setting, x.set(setting, first[setting]), first[setting]);
        }
    }

    /** The last values inside the range and the first ones outside; leaves the greatest one. */
    private static void range(OrganWind x, int setting, int least, int most, int first) {
        Check.due("below the least", x.set(setting, least - 1), BAD_VALUE);
        Check.due("the least", x.set(setting, least), first);
        Check.due("above the most", x.set(setting, most + 1), BAD_VALUE);
        Check.due("the most", x.set(setting, most), least);
        Check.due("far below", x.set(setting, Integer.MIN_VALUE), BAD_VALUE);
        Check.due("far above", x.set(setting, Integer.MAX_VALUE), BAD_VALUE);
        Check.due("the most stays", x.set(setting, most), most);
    }

    private static void weight() {
        Check.sentence("Settings", "0 weight W (20 to 200, 80);");
        OrganWind x = new OrganWind();
        Check.due("at first", x.tell(1), 80);
        range(x, 0, 20, 200, 80);
        Check.due("the most", x.tell(1), 200);
        x.set(0, 20);
        Check.due("the least", x.tell(1), 20);
    }

    private static void losses() {
        Check.sentence("Settings", "1 and 2 the losses of the chests of manual 0 and 1 (0 to 100, 10 each);");
        OrganWind x = new OrganWind();
        Organs.sound(x, 0, 0, 40);
        Organs.sound(x, 1, 1, 30);
        Check.due("manual 0 at first", x.chest(0, 0), 76);
        Check.due("manual 1 at first", x.chest(1, 0), 77);
        range(x, 1, 0, 100, 10);
        Check.due("manual 0, the most", x.chest(0, 0), 40);
        Check.due("manual 1 stays", x.chest(1, 0), 77);
        range(x, 2, 0, 100, 10);
        Check.due("manual 1, the most", x.chest(1, 0), 50);
        x.set(1, 0);
        Check.due("manual 0, the least", x.chest(0, 0), 80);
        Check.due("manual 1 stays", x.chest(1, 0), 50);
        x.set(2, 0);
        Check.due("manual 1, the least", x.chest(1, 0), 80);
    }

    private static void lowMark() {
        Check.sentence("Settings", "3 low mark (100 to 2000, 500);");
        OrganWind x = Organs.holding(500);
        Check.due("at first", x.tell(1), 80);
        range(x, 3, 100, 2000, 500);
        Check.due("the most", x.tell(1), 20);
        OrganWind y = Organs.holding(99);
        y.set(3, 100);
        Check.due("the least", y.tell(1), 79);
        Check.due("and just below it at first", Organs.holding(499).tell(1), 79);
    }

    private static void capacity() {
        Check.sentence("Settings", "4 capacity (1000 to 20000, 6000);");
        OrganWind x = new OrganWind();
        x.set(5, 20000);
        x.set(6, 500);
        x.set(7, 1);
        Check.due("at first", x.tick(7), 6000);
        Check.due("what is above is spilled", x.tell(5), 500);
        range(x, 4, 1000, 20000, 6000);
        Check.due("up to the most", x.tick(28), 20000);
        Check.due("nothing more is spilled", x.tell(5), 500);
        Organs.sound(x, 0, 0, 1);
        Check.due("one below", x.tick(1), 19999);
        Check.due("full ahead of the flows", x.tick(1), 19999);
        Check.due("499 are spilled", x.tell(5), 999);
        x.draw(0, false);
        x.set(4, 1000);
        Check.due("the least", x.tick(1), 1000);
        Check.due("all above is spilled", x.tell(5), 999 + 19499);
    }

    private static void target() {
        Check.sentence("Settings", "5 target (0 to 20000, 4000);");
        OrganWind x = new OrganWind();
        x.set(4, 20000);
        x.set(6, 100);
        x.set(7, 1);
        Check.due("at first", x.tick(11), 4000);
        range(x, 5, 0, 20000, 4000);
        Check.due("up to the most", x.tick(160), 20000);
        Check.due("not above it", x.tick(1), 20000);
        Check.due("strokes", x.strokes(0) + x.strokes(1), 170);
        OrganWind y = Organs.holding(0);
        Check.due("the least makes no stroke", y.tick(1), 0);
        Check.due("strokes", y.strokes(0), 0);
    }

    private static void stroke() {
        Check.sentence("Settings", "6 stroke (10 to 500, 120);");
        OrganWind x = new OrganWind();
        x.set(7, 1);
        Check.due("at first", x.tick(1), 3120);
        range(x, 6, 10, 500, 120);
        Check.due("the most", x.tick(1), 3620);
        x.set(6, 10);
        Check.due("the least", x.tick(1), 3630);
    }

    private static void strokeTime() {
        Check.sentence("Settings", "7 stroke time (1 to 8, 4);");
        OrganWind x = new OrganWind();
        x.tick(4);
        Check.due("four ticks at first", x.tell(9), 0);
        range(x, 7, 1, 8, 4);
        x.tick(7);
        Check.due("one part of eight is left", x.tell(9), 15);
        x.tick(1);
        Check.due("eight ticks are the most", x.tell(9), 0);
        x.set(7, 1);
        Check.due("one tick is the least", x.tick(1), 3360);
        Check.due("nothing is left", x.tell(9), 0);
    }

    private static void slope() {
        Check.sentence("Settings", "8 slope (0 to 32, 8).");
        OrganWind x = new OrganWind();
        x.set(1, 20);
        Organs.sound(x, 0, 0, 40);
        Check.due("8 lacking, at first", x.pipe(0, 23, 4), -4);
        range(x, 8, 0, 32, 8);
        Check.due("the most", x.pipe(0, 23, 4), -16);
        x.set(8, 0);
        Check.due("the least", x.pipe(0, 23, 4), 0);
    }

    private static void firstVolume() {
        Check.sentence("Pressures", "The reservoir has a volume V, at first 3000.");
        Check.due("V", new OrganWind().tell(0), 3000);
    }

    private static void reservoirPressure() {
        Check.sentence("Pressures", "Its pressure is W if V is at least the low mark, otherwise W * V / low mark.");
        OrganWind x = Organs.holding(999);
        x.set(3, 998);
        Check.due("above the low mark", x.tell(1), 80);
        x.set(3, 999);
        Check.due("at the low mark", x.tell(1), 80);
        x.set(3, 1000);
        Check.due("just below it: 79.92", x.tell(1), 79);
        x.set(0, 200);
        Check.due("just below it: 199.8", x.tell(1), 199);
        x.set(3, 1998);
        Check.due("at the half", x.tell(1), 100);
        OrganWind empty = Organs.holding(0);
        empty.set(0, 200);
        Check.due("empty", empty.tell(1), 0);
        OrganWind little = Organs.holding(9);
        little.set(0, 200);
        little.set(3, 2000);
        Check.due("9 / 10", little.tell(1), 0);
        OrganWind more = Organs.holding(10);
        more.set(0, 200);
        more.set(3, 2000);
        Check.due("10 / 10", more.tell(1), 1);
    }

    private static void chestPressure() {
        Check.sentence("Pressures", "The pressure of a chest is that of the reservoir less"
                + " (the sum of the needs of all open pipes of its manual) * loss / 100,");
        OrganWind x = new OrganWind();
        Organs.sound(x, 1, 1, 40);
        Check.due("no open pipe of its manual", x.chest(0, 0), 80);
        Organs.sound(x, 0, 0, 9);
        Check.due("9 * 10 / 100", x.chest(0, 0), 80);
        x.layOut(0, 0, 10, 0);
        Check.due("10 * 10 / 100", x.chest(0, 0), 79);
        x.layOut(0, 0, 19, 0);
        Check.due("19 * 10 / 100", x.chest(0, 0), 79);
        x.layOut(0, 0, 19, 200);
        Check.due("also of one that does not speak", x.chest(0, 0), 79);
        Organs.sound(x, 2, 0, 1);
        Check.due("the sum is divided: 20 * 10 / 100", x.chest(0, 0), 78);
        Check.due("the other manual", x.chest(1, 0), 76);
        x.set(3, 2000);
        x.set(5, 0);
        x.tick(16);
        Check.due("V below the low mark", x.tell(0), 3000 - 16 * (18 + 38));
        Check.due("19 * 78 / 80 and 40 * 76 / 80 were got", x.tell(4), 896);
        OrganWind y = Organs.holding(999);
        y.set(3, 1000);
        Organs.sound(y, 0, 0, 10);
        Check.due("less than that of the reservoir below the low mark", y.chest(0, 0), 78);
    }

    private static void chestPressureAtLeast0() {
        Check.sentence("Pressures", "but at least 0.");
        OrganWind x = new OrganWind();
        x.set(1, 100);
        Organs.sound(x, 0, 0, 40);
        Organs.sound(x, 2, 0, 39);
        Check.due("80 - 79", x.chest(0, 0), 1);
        x.layOut(2, 0, 40, 0);
        Check.due("80 - 80", x.chest(0, 0), 0);
        Organs.sound(x, 4, 0, 1);
        Check.due("80 - 81", x.chest(0, 0), 0);
        Check.due("it asks for 0", x.pipe(0, 23, 2), 0);
        Check.due("V stays", x.lowest(1), 3030);
    }

    private static void asking() {
        Check.sentence("Flows", "An open pipe asks for need * (pressure of its chest) / W.");
        OrganWind x = new OrganWind();
        Organs.sound(x, 0, 0, 1);
        Check.due("1 * 80 / 80", x.pipe(0, 23, 2), 1);
        x.cipher(1, 23, true);
        Check.due("not open", x.pipe(1, 23, 2), NONE);
        Organs.sound(x, 2, 0, 9);
        Check.due("needs 10", x.chest(0, 0), 79);
        Check.due("1 * 79 / 80", x.pipe(0, 23, 2), 0);
        Check.due("9 * 79 / 80", x.pipe(2, 23, 2), 8);
        x.set(1, 100);
        x.layOut(2, 0, 39, 0);
        Check.due("1 * 40 / 80", x.pipe(0, 23, 2), 0);
        Check.due("39 * 40 / 80", x.pipe(2, 23, 2), 19);
        x.set(0, 200);
        Check.due("39 * 160 / 200", x.pipe(2, 23, 2), 31);
        x.set(0, 40);
        Check.due("39 * 0 / 40", x.pipe(2, 23, 2), 0);
        OrganWind y = Organs.holding(250);
        y.set(1, 0);
        Organs.sound(y, 0, 0, 40);
        Check.due("40 * 40 / 80, not by the reservoir's full pressure", y.pipe(0, 23, 2), 20);
    }

    private static void orderOfStopsAndKeys() {
        Check.sentence("Flows", "The pipes get what they ask for in the order of their stops, of one stop in the order"
                + " of keys, as long as there is as much in the reservoir;");
        OrganWind x = Organs.scarce();
        Organs.sound(x, 7, 0, 40);
        Organs.sound(x, 1, 0, 40);
        Organs.sound(x, 0, 1, 40);
        Check.due("stop 0 on manual 1 first", x.pipe(0, 23, 3), 4);
        Check.due("then stop 1 on manual 0", x.pipe(1, 23, 3), 4);
        Check.due("the last stop gets the rest", x.pipe(7, 23, 3), 2);
        x.layOut(7, 0, 20, 0);
        Check.due("just as much", x.pipe(7, 23, 3), 2);
        Check.due("is enough", x.reason(7, 23), 0);
        OrganWind y = Organs.scarce();
        Organs.sound(y, 3, 0, 40);
        y.press(0, 0, true);
        y.press(0, 22, true);
        Check.due("key 0 first", y.pipe(3, 0, 3), 4);
        Check.due("then key 22, which is pressed", y.pipe(3, 22, 3), 4);
        Check.due("then key 23, which ciphers", y.pipe(3, 23, 3), 2);
        y.press(0, 0, false);
        y.cipher(3, 0, true);
        Check.due("a cipher comes by its key too", y.pipe(3, 0, 3), 4);
        Organs.sound(y, 4, 0, 10);
        Check.due("a later stop comes after all of them", y.pipe(4, 23, 3), 0);
    }

    private static void whatIsLeft() {
        Check.sentence("Flows", "one that asks for more than is left gets what is left.");
        OrganWind x = Organs.scarce();
        Organs.sound(x, 0, 0, 40);
        Organs.sound(x, 1, 0, 40);
        Organs.sound(x, 2, 0, 30);
        Organs.sound(x, 3, 0, 10);
        Organs.sound(x, 4, 0, 9);
        Check.due("asks for one more", x.pipe(2, 23, 2), 3);
        Check.due("gets what is left", x.pipe(2, 23, 3), 2);
        Check.due("the next one asks", x.pipe(3, 23, 2), 1);
        Check.due("nothing is left", x.pipe(3, 23, 3), 0);
        Check.due("nor can it speak", x.reason(3, 23), 4);
        Check.due("one that asks for 0 gets 0", x.pipe(4, 23, 3), 0);
        Check.due("which is what it asks for", x.reason(4, 23), 5);
        Check.due("nothing is left in the reservoir", x.tick(1), 0);
        Check.due("stop 2 got the rest", x.stop(2, 4) - before(2), 2);
        Check.due("stop 3 got nothing", x.stop(3, 4) - before(3), 0);
    }

    /** What a stop has got in an organ with little wind, ahead of all else. */
    private static int before(int stop) {
        return Organs.scarce().stop(stop, 4);
    }

    private static void speaking() {
        Check.sentence("Flows", "A pipe speaks if it is open, the pressure of its chest is at least the least pressure"
                + " of its stop, and it gets what it asks for, and that is not 0.");
        OrganWind x = new OrganWind();
        x.layOut(0, 0, 10, 79);
        x.cipher(0, 23, true);
        Check.due("not open", x.tell(7), 0);
        x.draw(0, true);
        Check.due("the pressure is the least one", x.tell(7), 1);
        x.layOut(0, 0, 10, 80);
        Check.due("the pressure is one less", x.tell(7), 0);
        Check.due("though it gets all", x.pipe(0, 23, 3), 9);
        x.layOut(0, 0, 1, 0);
        Organs.sound(x, 2, 0, 9);
        Check.due("one asks for 0, one for 8", x.tell(7), 1);
        Check.due("asks for 0", x.pipe(0, 23, 3), 0);
        OrganWind y = Organs.scarce();
        Organs.sound(y, 0, 0, 40);
        Organs.sound(y, 1, 0, 40);
        Organs.sound(y, 2, 0, 20);
        Check.due("the third gets just what it asks for", y.tell(7), 3);
        y.layOut(2, 0, 30, 0);
        Check.due("the third gets one less", y.tell(7), 2);
        Check.due("the empty reservoir", emptySpeaks(), 0);
    }

    private static int emptySpeaks() {
        OrganWind x = Organs.holding(0);
        Organs.sound(x, 0, 0, 40);
        return x.tell(7);
    }

    private static void flowsAsVIs() {
        Check.sentence("Flows", "(Flows are told for V as it is.)");
        OrganWind x = Organs.holding(0);
        x.set(1, 0);
        x.set(5, 500);
        x.set(6, 500);
        x.set(7, 1);
        Organs.sound(x, 0, 0, 40);
        int before = x.stop(0, 4);
        Check.due("asks, while it is empty", x.pipe(0, 23, 2), 0);
        Check.due("gets, while it is empty", x.pipe(0, 23, 3), 0);
        Check.due("a stroke and the flow", x.tick(1), 460);
        Check.due("what it got by the tick", x.stop(0, 4) - before, 40);
        Check.due("asks, after the tick: 40 * 73 / 80", x.pipe(0, 23, 2), 36);
        Check.due("gets, after the tick", x.pipe(0, 23, 3), 36);
        x.set(3, 460);
        Check.due("gets, with another low mark", x.pipe(0, 23, 3), 40);
    }

    private static void pitch() {
        Check.sentence("Pitch", "An open pipe has the pitch offset + (pressure of its chest - W) * slope / 16.");
        OrganWind x = new OrganWind();
        x.cipher(0, 23, true);
        Check.due("not open", x.pipe(0, 23, 4), NONE);
        Organs.sound(x, 0, 0, 9);
        Check.due("0 lacking", x.pipe(0, 23, 4), 0);
        x.layOut(0, 0, 10, 200);
        int[] slopes = {0, 1, 15, 16, 17, 32};
        int[] pitches = {0, -1, -1, -1, -2, -2};
        for (int i = 0; i < slopes.length; i++) {
            x.set(8, slopes[i]);
            Check.due("1 lacking, slope " + slopes[i], x.pipe(0, 23, 4), pitches[i]);
        }
        Check.due("it has a pitch without speaking", x.reason(0, 23), 3);
        x.layOut(0, 0, 16, 0);
        x.set(1, 100);
        x.set(8, 1);
        Check.due("16 lacking", x.pipe(0, 23, 4), -1);
        x.layOut(0, 0, 17, 0);
        Check.due("17 lacking", x.pipe(0, 23, 4), -2);
        Check.due("tune", x.tune(0, 23), 0);
        Check.due("with its offset", x.pipe(0, 23, 4), 0);
        x.set(8, 32);
        Check.due("the offset is not divided", x.pipe(0, 23, 4), 2 - 34);
        Organs.sound(x, 2, 0, 40);
        Organs.sound(x, 4, 0, 40);
        Check.due("no pressure at all", x.pipe(2, 23, 4), -160);
        Check.due("the weight counts", pitchOfWeight200(), -400);
    }

    private static int pitchOfWeight200() {
        OrganWind x = Organs.holding(0);
        x.set(0, 200);
        x.set(8, 32);
        Organs.sound(x, 0, 0, 40);
        return x.pipe(0, 23, 4);
    }
}
