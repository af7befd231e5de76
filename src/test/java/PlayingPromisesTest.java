/** Promises 6 to 9: draw, press, couple, tick. */
public final class PlayingPromisesTest {
    private static final int[] OUTSIDE = {Integer.MIN_VALUE, -1000000, -1, Integer.MAX_VALUE};

    public static void main(String[] args) {
        draw();
        press();
        couple();
        keysThatAct();
        tickStrokes();
        tickParts();
        strokeStaysAsItBegan();
        tickSpills();
        tickFlows();
        tickScarceWind();
        tickErrors();
        Check.end();
    }

    private static void draw() {
        OrganWind x = new OrganWind();
        Check.due("draw", x.draw(7, true), 1);
        Check.due("draw again", x.draw(7, true), 1);
        Check.due("draw another", x.draw(0, true), 2);
        Check.due("is drawn", x.stop(7, 3), 1);
        Check.due("retire", x.draw(7, false), 1);
        Check.due("is not drawn", x.stop(7, 3), 0);
        Check.due("retire again", x.draw(7, false), 1);
        for (int bad : OUTSIDE) {
            Check.due("draw bad", x.draw(bad, true), -1000001);
        }
        Check.due("draw 8", x.draw(8, false), -1000001);
        Check.due("draw is recorded, also if nothing becomes different", x.undo(), 4);
        Check.due("undo", x.undo(), 3);
        Check.due("drawn again", x.stop(7, 3), 1);
    }

    private static void press() {
        OrganWind x = new OrganWind();
        Check.due("press", x.press(0, 0, true), 1);
        Check.due("press again", x.press(0, 0, true), 1);
        Check.due("press another", x.press(0, 23, true), 2);
        Check.due("press on the other manual", x.press(1, 5, true), 1);
        Check.due("keys", x.chest(0, 2), 1 + (1 << 23));
        Check.due("keys of the other", x.chest(1, 2), 1 << 5);
        Check.due("release", x.press(0, 0, false), 1);
        Check.due("release again", x.press(0, 0, false), 1);
        Check.due("keys then", x.chest(0, 2), 1 << 23);
        for (int bad : OUTSIDE) {
            Check.due("press manual", x.press(bad, 0, true), -1000001);
            Check.due("press key", x.press(0, bad, true), -1000001);
        }
        Check.due("press manual 2", x.press(2, 0, false), -1000001);
        Check.due("press key 24", x.press(1, 24, false), -1000001);
        Check.due("press is recorded", x.undo(), 4);
        Check.due("undo", x.undo(), 3);
        Check.due("pressed again", x.chest(0, 2), 1 + (1 << 23));
    }

    private static void couple() {
        OrganWind x = new OrganWind();
        Check.due("couple", x.couple(true, false), 0);
        Check.due("were manual", x.couple(false, true), 1);
        Check.due("were octave", x.couple(true, true), 2);
        Check.due("were both", x.couple(false, false), 3);
        Check.due("couple is recorded", x.undo(), 3);
        Check.due("both again", x.couple(true, true), 3);
    }

    private static void keysThatAct() {
        OrganWind x = new OrganWind();
        x.press(0, 2, true);
        x.press(0, 12, true);
        x.press(1, 4, true);
        Check.due("manual 0", x.chest(0, 2), 1 << 2 | 1 << 12);
        Check.due("manual 1", x.chest(1, 2), 1 << 4);
        x.couple(false, true);
        Check.due("manual 0, octave", x.chest(0, 2), 1 << 2 | 1 << 12 | 1 << 14);
        Check.due("manual 1, octave", x.chest(1, 2), 1 << 4);
        x.couple(true, false);
        Check.due("manual 0, manual coupler", x.chest(0, 2), 1 << 2 | 1 << 12);
        Check.due("manual 1, manual coupler", x.chest(1, 2), 1 << 4 | 1 << 2 | 1 << 12);
        x.couple(true, true);
        Check.due("manual 1, both", x.chest(1, 2), 1 << 4 | 1 << 2 | 1 << 12 | 1 << 14);
        x.press(0, 11, true);
        Check.due("key 11 acts on 23", x.chest(0, 2), 1 << 2 | 1 << 12 | 1 << 14 | 1 << 11 | 1 << 23);
    }

    private static void tickStrokes() {
        OrganWind x = new OrganWind();
        Check.due("tick", x.tick(1), 3030);
        Check.due("feeder 0 begins", x.strokes(0), 1);
        Check.due("not feeder 1", x.strokes(1), 0);
        Check.due("is left", x.tell(9), 90);
        Check.due("rest of the stroke", x.tick(3), 3120);
        Check.due("nothing is left", x.tell(9), 0);
        Check.due("next stroke", x.tick(1), 3150);
        Check.due("feeder 1 then", x.strokes(1), 1);
        x.tick(3);
        Check.due("third stroke", x.tick(1), 3270);
        Check.due("feeder 0 again", x.strokes(0), 2);
        Check.due("time", x.tell(2), 9);
        Check.due("made", x.tell(3), 270);
        x.set(5, 3271);
        Check.due("the stroke goes on above the target", x.tick(3), 3360);
        Check.due("and no other one begins", x.tick(200), 3360);
        x.set(5, 3360);
        Check.due("nor at the target", x.tick(1), 3360);
        x.set(5, 3361);
        Check.due("but below it", x.tick(1), 3390);
        Check.due("by feeder 1", x.strokes(1), 2);
        Check.due("most ticks", x.tick(200), 3480);
        Check.due("time then", x.tell(2), 9 + 3 + 200 + 1 + 1 + 200);
    }

    private static void tickParts() {
        OrganWind x = new OrganWind();
        x.set(6, 500);
        x.set(7, 3);
        Check.due("part", x.tick(1), 3166);
        Check.due("part", x.tick(1), 3332);
        Check.due("is left", x.tell(9), 168);
        Check.due("last part", x.tick(1), 3500);
        x.set(6, 10);
        x.set(7, 8);
        Check.due("seven small parts", x.tick(7), 3507);
        Check.due("is left", x.tell(9), 3);
        Check.due("all that is left", x.tick(1), 3510);
        x.set(7, 1);
        Check.due("a stroke in one tick", x.tick(1), 3520);
        Check.due("nothing is left", x.tell(9), 0);
        Check.due("a stroke each tick", x.tick(2), 3540);
        Check.due("feeder 0", x.strokes(0), 3);
        Check.due("feeder 1", x.strokes(1), 2);
    }

    private static void strokeStaysAsItBegan() {
        OrganWind x = new OrganWind();
        x.tick(2);
        x.set(6, 400);
        x.set(7, 1);
        x.set(5, 0);
        Check.due("part as it began", x.tick(1), 3090);
        Check.due("left as it began", x.tell(9), 30);
        Check.due("last part as it began", x.tick(1), 3120);
        Check.due("no other one", x.tick(1), 3120);
        x.set(5, 20000);
        Check.due("the next one as it is now", x.tick(1), 3520);
    }

    private static void tickSpills() {
        OrganWind x = new OrganWind();
        x.set(4, 1000);
        x.set(5, 0);
        Check.due("a lower capacity spills nothing", x.tick(5), 3000);
        Check.due("nothing spilled", x.tell(5), 0);
        x.set(5, 3001);
        Check.due("but with a stroke", x.tick(1), 1000);
        Check.due("spilled", x.tell(5), 2030);
        Check.due("made is counted whole", x.tell(3), 30);
        x.draw(7, true);
        x.press(1, 23, true);
        Check.due("spilled before the flows", x.tick(1), 1000 - 17);
        Check.due("spilled", x.tell(5), 2060);
        Check.due("filled up again", x.tick(1), 1000 - 17);
        Check.due("spilled", x.tell(5), 2073);
        x.set(4, 6000);
        Check.due("exactly up to the capacity", x.tick(1), 983 + 30 - 17);
        x.set(4, 1026);
        Check.due("nothing above", x.tick(1), 996 + 30 - 17);
        Check.due("spilled nothing more", x.tell(5), 2073);
    }

    private static void tickFlows() {
        OrganWind x = new OrganWind();
        x.set(5, 0);
        x.draw(0, true);
        x.draw(1, true);
        x.press(0, 0, true);
        x.press(1, 23, true);
        Check.due("two pipes", x.tick(10), 3000 - 10 * (9 + 6));
        Check.due("wind of stop 0", x.stop(0, 4), 90);
        Check.due("wind of stop 1", x.stop(1, 4), 60);
        Check.due("wind that pipes got", x.tell(4), 150);
        x.set(3, 2000);
        x.set(1, 100);
        Check.due("pressure of a chest", x.chest(0, 0), 71);
        Check.due("less wind", x.tick(1), 2850 - 7 - 6);
        Check.due("time", x.tell(2), 11);
    }

    /** Three pipes whose needs are 130 share what a low mark of 100 leaves. */
    private static void tickScarceWind() {
        OrganWind x = new OrganWind();
        x.set(5, 0);
        x.set(3, 100);
        x.set(1, 0);
        x.layOut(0, 0, 40, 0);
        x.draw(0, true);
        x.press(0, 0, true);
        x.press(0, 1, true);
        x.press(0, 23, true);
        Check.due("all get theirs", x.tick(23), 10);
        Check.due("pressure", x.tell(1), 8);
        Check.due("first asks", x.pipe(0, 0, 2), 4);
        Check.due("first gets", x.pipe(0, 0, 3), 4);
        Check.due("second gets", x.pipe(0, 1, 3), 4);
        Check.due("third asks", x.pipe(0, 23, 2), 4);
        Check.due("third gets what is left", x.pipe(0, 23, 3), 2);
        Check.due("third does not speak", x.reason(0, 23), 4);
        Check.due("two speak", x.tell(7), 2);
        Check.due("nothing left", x.tick(1), 0);
        Check.due("all was got", x.stop(0, 4), 3000);
        Check.due("no pressure", x.tell(1), 0);
        Check.due("asks for 0", x.reason(0, 0), 5);
        Check.due("which is not speaking", x.tell(7), 0);
        Check.due("none speaks", x.mistuned(), -1000005);
        Check.due("stays empty", x.tick(200), 0);
    }

    private static void tickErrors() {
        OrganWind x = new OrganWind();
        for (int bad : OUTSIDE) {
            Check.due("tick bad", x.tick(bad), -1000002);
        }
        Check.due("tick 0", x.tick(0), -1000002);
        Check.due("tick 201", x.tick(201), -1000002);
        Check.due("time", x.tell(2), 0);
        Check.due("errors are not recorded", x.undo(), -1000003);
        x.tick(200);
        Check.due("tick is recorded once", x.undo(), 0);
        Check.due("time before", x.tell(2), 0);
        Check.due("volume before", x.tell(0), 3000);
        Check.due("strokes before", x.strokes(0), 0);
        Check.due("made before", x.tell(3), 0);
    }
}
