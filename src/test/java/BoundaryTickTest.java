/** The sentences of "Description", the paragraph of the tick, and of "What it is", at their boundaries. */
public final class BoundaryTickTest {
    private static final String TICK = "A tick is";

    public static void main(String[] args) {
        strokeBegins();
        feedersInTurn();
        strokesCount();
        strokeAsItIsWhenItBegins();
        partOfStroke();
        lastPart();
        spilled();
        spilledOnlyWithAPart();
        flows();
        time();
        calls512();
        Check.end();
    }

    private static int strokes(OrganWind x) {
        return x.strokes(0) + x.strokes(1);
    }

    private static void strokeBegins() {
        Check.sentence(TICK, "1. If no stroke is under way, and V is less than the target, a stroke begins,");
        OrganWind x = new OrganWind();
        x.set(5, 3000);
        Check.due("V is the target", x.tick(1), 3000);
        Check.due("no stroke", strokes(x), 0);
        x.set(5, 3001);
        Check.due("V is one less, and a part is made at once", x.tick(1), 3030);
        Check.due("a stroke", strokes(x), 1);
        x.set(5, 20000);
        x.tick(3);
        Check.due("none begins while one is under way", strokes(x), 1);
        x.tick(1);
        Check.due("the next one begins at once", strokes(x), 2);
        x.set(5, 0);
        Check.due("it goes on without a target", x.tick(3), 3240);
        Check.due("none begins then", x.tick(200), 3240);
        OrganWind empty = Organs.holding(0);
        Check.due("0 is not less than 0", empty.tick(1), 0);
        empty.set(5, 1);
        Check.due("but than 1", empty.tick(1), 30);
    }

    private static void feedersInTurn() {
        Check.sentence(TICK, "by feeder 0 the first time, and then by the one that did not make the stroke before;");
        OrganWind x = new OrganWind();
        x.set(7, 1);
        int[] first = {1, 1, 2, 2, 3};
        int[] second = {0, 1, 1, 2, 2};
        for (int i = 0; i < 5; i++) {
            x.tick(1);
            Check.due("feeder 0, stroke " + (i + 1), x.strokes(0), first[i]);
            Check.due("feeder 1, stroke " + (i + 1), x.strokes(1), second[i]);
        }
        x.set(5, 0);
        x.tick(3);
        x.set(5, 4000);
        x.tick(1);
        Check.due("feeder 1 also after a pause", x.strokes(1), 3);
        Check.due("feeder 0 not", x.strokes(0), 3);
    }

    private static void strokesCount() {
        Check.sentence(TICK, "this counts as a stroke of this feeder,");
        OrganWind x = new OrganWind();
        x.tick(1);
        Check.due("as it begins", x.strokes(0), 1);
        x.tick(3);
        Check.due("once", x.strokes(0), 1);
        Check.due("not for the other one", x.strokes(1), 0);
    }

    private static void strokeAsItIsWhenItBegins() {
        Check.sentence(TICK, "and what it makes is the stroke, over as many ticks as the stroke time, as both are now.");
        OrganWind x = new OrganWind();
        x.set(6, 200);
        x.set(7, 2);
        Check.due("as both are when it begins", x.tick(1), 3100);
        x.set(6, 10);
        x.set(7, 8);
        Check.due("not as they become", x.tick(1), 3200);
        Check.due("its two ticks are over", x.tell(9), 0);
        Check.due("the next one as they are then", x.tick(1), 3201);
        Check.due("its rest", x.tell(9), 9);
        x.set(7, 1);
        Check.due("a shorter time does not end it", x.tick(6), 3207);
        Check.due("but its eighth tick", x.tick(1), 3210);
        Check.due("and the next one takes one tick", x.tick(1), 3220);
    }

    private static void partOfStroke() {
        Check.sentence(TICK, "2. If a stroke is under way, a part of it is made: what it makes divided by its ticks;");
        OrganWind x = new OrganWind();
        x.set(6, 500);
        x.set(7, 8);
        for (int i = 1; i <= 7; i++) {
            Check.due("part " + i, x.tick(1), 3000 + 62 * i);
            Check.due("made " + i, x.tell(3), 62 * i);
            Check.due("left " + i, x.tell(9), 500 - 62 * i);
        }
        OrganWind y = new OrganWind();
        y.set(6, 11);
        Check.due("11 / 4", y.tick(1), 3002);
        Check.due("11 / 4", y.tick(2), 3006);
        OrganWind none = new OrganWind();
        none.set(5, 0);
        Check.due("no stroke, no part", none.tick(1), 3000);
        Check.due("nothing is made", none.tell(3), 0);
    }

    private static void lastPart() {
        Check.sentence(TICK, "in its last tick all that is left of it, and it is not under way any more.");
        OrganWind x = new OrganWind();
        x.set(6, 500);
        x.set(7, 8);
        x.tick(7);
        Check.due("the last part", x.tick(1), 3500);
        Check.due("nothing is left", x.tell(9), 0);
        Check.due("no other one has begun", strokes(x), 1);
        x.set(7, 1);
        Check.due("the only part", x.tick(1), 4000);
        Check.due("nothing is left", x.tell(9), 0);
        Check.due("none is under way", x.tick(1), 4000);
        OrganWind y = new OrganWind();
        y.set(6, 11);
        y.tick(3);
        Check.due("11 - 3 * 2", y.tick(1), 3011);
    }

    private static void spilled() {
        Check.sentence(TICK, "V increases by this; all that is above the capacity then is spilled");
        OrganWind below = new OrganWind();
        below.set(4, 3031);
        Check.due("one below the capacity", below.tick(1), 3030);
        Check.due("spilled", below.tell(5), 0);
        OrganWind at = new OrganWind();
        at.set(4, 3030);
        Check.due("at the capacity", at.tick(1), 3030);
        Check.due("spilled", at.tell(5), 0);
        OrganWind above = new OrganWind();
        above.set(4, 3029);
        Check.due("one above the capacity", above.tick(1), 3029);
        Check.due("spilled", above.tell(5), 1);
        Check.due("made is counted with it", above.tell(3), 30);
        Organs.sound(above, 0, 0, 9);
        Check.due("spilled ahead of the flows", above.tick(1), 3020);
        Check.due("spilled then", above.tell(5), 31);
        Check.due("the flows leave room", above.tick(1), 3020);
        Check.due("for nine", above.tell(5), 31 + 21);
    }

    private static void spilledOnlyWithAPart() {
        Check.sentence(TICK, "(only now: a lower capacity spills nothing by itself).");
        OrganWind x = new OrganWind();
        x.set(5, 3000);
        x.set(4, 1000);
        Check.due("V", x.tell(0), 3000);
        Check.due("a tick without a stroke", x.tick(1), 3000);
        Check.due("spilled", x.tell(5), 0);
        x.set(5, 3001);
        Check.due("a tick with one", x.tick(1), 1000);
        Check.due("spilled", x.tell(5), 2030);
    }

    private static void flows() {
        Check.sentence(TICK, "3. All pipes get their flows, and V decreases by them.");
        OrganWind x = new OrganWind();
        x.set(5, 0);
        Organs.sound(x, 0, 0, 9);
        x.layOut(1, 1, 9, 200);
        x.draw(1, true);
        x.cipher(1, 23, true);
        Check.due("also those that do not speak", x.tick(1), 2982);
        Check.due("stop 0", x.stop(0, 4), 9);
        Check.due("stop 1", x.stop(1, 4), 9);
        OrganWind y = Organs.scarce();
        Organs.sound(y, 0, 0, 40);
        Organs.sound(y, 1, 0, 40);
        Organs.sound(y, 2, 0, 40);
        int before = y.stop(2, 4);
        Check.due("V does not fall below 0", y.tick(1), 0);
        Check.due("the last one got the rest", y.stop(2, 4) - before, 2);
        Check.due("nothing flows out of nothing", y.tick(200), 0);
        OrganWind z = Organs.holding(0);
        z.set(5, 1);
        z.set(6, 500);
        z.set(7, 1);
        Organs.sound(z, 0, 0, 9);
        Check.due("flows are those after the part", z.tick(1), 491);
        pressureFalls();
    }

    /** The flow of each tick goes with the pressure that V has then. */
    private static void pressureFalls() {
        OrganWind x = Organs.holding(500);
        x.set(1, 0);
        Organs.sound(x, 0, 0, 40);
        Check.due("40 at the low mark", x.tick(1), 460);
        Check.due("40 * 73 / 80", x.tick(1), 424);
        Check.due("40 * 67 / 80", x.tick(1), 391);
        Check.due("40 * 62 / 80", x.tick(1), 360);
        x.undo();
        x.undo();
        Check.due("the same in one call", x.tick(2), 360);
    }

    private static void time() {
        Check.sentence(TICK, "4. The time increases by 1.");
        OrganWind x = new OrganWind();
        x.tick(1);
        Check.due("one tick", x.tell(2), 1);
        x.tick(200);
        Check.due("200 more", x.tell(2), 201);
    }

    /** 80 letters and five other calls, 419 texts of 3200 ticks each, and eight more calls. */
    private static void calls512() {
        Check.sentence("What it is", "An object is used for at most 512 calls after it has been made");
        OrganWind x = new OrganWind();
        for (int i = 0; i < 80; i++) {
            x.append("t200;".charAt(i % 5));
        }
        x.set(6, 500);
        x.set(7, 1);
        x.set(1, 0);
        x.draw(6, true);
        x.cipher(6, 23, true);
        for (int i = 0; i < 419; i++) {
            x.play();
        }
        int ticks = 419 * 3200;
        Check.due("time", x.tell(2), ticks);
        Check.due("wind got", x.tell(4), 16 * ticks);
        Check.due("of the stop", x.stop(6, 4), 16 * ticks);
        int strokes = x.strokes(0) + x.strokes(1);
        Check.due("wind made", x.tell(3), 500 * strokes);
        Check.due("V", x.tell(0), 3000 + 500 * strokes - 16 * ticks);
        Check.due("the 512th call", x.undo(), 4);
        OrganWind y = new OrganWind();
        for (int i = 1; i <= 511; i++) {
            y.append('d');
        }
        Check.due("the 512th call", y.clearText(), 80);
    }
}
