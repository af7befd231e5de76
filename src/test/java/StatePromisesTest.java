/** Promises 24 to 27: undo, save, restore, checksum. */
public final class StatePromisesTest {
    private static final int[] OUTSIDE = {Integer.MIN_VALUE, -1000000, -1, 2, Integer.MAX_VALUE};
    private static final int[] OTHER_SETTINGS = {120, 20, 5, 700, 5000, 4500, 90, 5, 30};

    public static void main(String[] args) {
        undo();
        undoBringsAllBack();
        undoBringsTheBellowsBack();
        whatIsRecorded();
        save();
        restore();
        slotsAreNoState();
        checksumOfAll();
        checksumWithOverflow();
        Check.end();
    }

    private static void undo() {
        OrganWind x = new OrganWind();
        Check.due("empty", x.undo(), -1000003);
        for (int i = 1; i <= 7; i++) {
            x.set(0, 100 + i);
        }
        for (int left = 4; left >= 0; left--) {
            Check.due("undo", x.undo(), left);
        }
        Check.due("empty again", x.undo(), -1000003);
        Check.due("the oldest were dropped", x.set(0, 50), 102);
        Check.due("undo", x.undo(), 0);
        Check.due("as before", x.set(0, 60), 102);
        x.set(0, 61);
        x.undo();
        x.set(0, 62);
        Check.due("recorded after an undo", x.undo(), 1);
        Check.due("latest first", x.set(0, 70), 60);
    }

    private static void undoBringsAllBack() {
        OrganWind x = new OrganWind();
        x.draw(2, true);
        x.draw(3, true);
        x.cipher(3, 4, true);
        x.press(0, 5, true);
        x.set(8, 32);
        x.couple(false, true);
        x.tick(13);
        x.tune(2, 5);
        long before = x.checksum();
        Check.due("octave coupler was", x.couple(true, false), 2);
        x.tick(6);
        x.layOut(2, 1, 3, 7);
        x.cipher(3, 4, false);
        x.press(1, 6, true);
        Check.due("is another state", x.checksum() == before ? 1 : 0, 0);
        for (int left = 4; left >= 0; left--) {
            Check.due("undo", x.undo(), left);
        }
        Check.due("is the state", x.checksum(), before);
        Check.due("octave coupler is", x.couple(false, true), 2);
        x.tick(3);
        OrganWind y = new OrganWind();
        y.tick(13);
        y.tick(3);
        Check.due("the stroke goes on", x.tell(9), y.tell(9));
        Check.due("strokes go on", x.strokes(1), y.strokes(1));
    }

    private static void undoBringsTheBellowsBack() {
        OrganWind x = new OrganWind();
        x.set(4, 3050);
        x.set(6, 200);
        x.tick(2);
        Check.due("spilled", x.tell(5), 50);
        x.set(6, 80);
        x.set(7, 8);
        x.tick(3);
        Check.due("spilled more", x.tell(5), 150 + 10);
        Check.due("made more", x.tell(3), 210);
        x.undo();
        Check.due("spilled before", x.tell(5), 50);
        Check.due("left before", x.tell(9), 100);
        Check.due("made before", x.tell(3), 100);
        x.set(4, 6000);
        Check.due("the stroke as it began", x.tick(1), 3100);
        Check.due("and its last part", x.tick(1), 3150);
        x.undo();
        x.undo();
        x.tick(2);
        x.tick(1);
        Check.due("feeder 1 is next", x.strokes(1), 1);
        x.undo();
        x.tick(1);
        Check.due("feeder 1 is next again", x.strokes(1), 1);
        Check.due("feeder 0 is not", x.strokes(0), 1);
    }

    private static void whatIsRecorded() {
        OrganWind x = new OrganWind();
        x.draw(0, true);
        x.tell(0);
        x.append('t');
        x.faultPosition();
        x.play();
        x.clearText();
        x.save(0);
        x.search(0);
        x.robbed(1);
        x.lowest(5);
        x.mistuned();
        x.checksum();
        Check.due("draw alone", x.undo(), 0);
        Check.due("is undone", x.stop(0, 3), 0);
    }

    private static void save() {
        OrganWind x = new OrganWind();
        Check.due("save", x.save(1), 0);
        x.tick(17);
        Check.due("save later", x.save(0), 17);
        Check.due("save in its place", x.save(1), 17);
        x.tick(4);
        Check.due("restore 1", x.restore(1), 17);
        for (int bad : OUTSIDE) {
            Check.due("save bad", x.save(bad), -1000001);
        }
        Check.due("save is not recorded", x.undo(), 2);
    }

    private static void restore() {
        OrganWind x = new OrganWind();
        Check.due("nothing saved", x.restore(0), -1000003);
        for (int bad : OUTSIDE) {
            Check.due("restore bad", x.restore(bad), -1000001);
        }
        Check.due("errors are not recorded", x.undo(), -1000003);
        x.draw(4, true);
        x.press(0, 3, true);
        x.tick(9);
        long saved = x.checksum();
        x.save(0);
        Check.due("the other slot", x.restore(1), -1000003);
        x.tick(20);
        x.draw(5, true);
        long later = x.checksum();
        Check.due("restore", x.restore(0), 9);
        Check.due("as it was saved", x.checksum(), saved);
        Check.due("restore is recorded", x.undo(), 4);
        Check.due("as before", x.checksum(), later);
        Check.due("the slot keeps it", x.restore(0), 9);
        Check.due("as it was saved", x.checksum(), saved);
        x.tick(1);
        Check.due("the slot is apart", x.restore(0), 9);
        Check.due("as it was saved", x.checksum(), saved);
    }

    private static void slotsAreNoState() {
        OrganWind x = new OrganWind();
        x.tick(1);
        x.save(0);
        x.tick(1);
        x.save(1);
        x.undo();
        x.undo();
        Check.due("undo keeps slot 0", x.restore(0), 1);
        Check.due("restore keeps slot 1", x.restore(1), 2);
        Check.due("the history is no state", x.undo(), 1);
    }

    private static void checksumOfAll() {
        int[] settings = {80, 10, 10, 500, 6000, 4000, 120, 4, 8};
        Check.due("checksum of a new one", new OrganWind().checksum(), Checksum.of(OrganWind::new, settings));
        OrganWind y = twoStops();
        Check.due("checksum", y.checksum(), Checksum.of(StatePromisesTest::twoStops, settings));
        Check.due("checksum again", y.checksum(), Checksum.of(StatePromisesTest::twoStops, settings));
        Check.due("checksum is not recorded", y.undo(), 3);
    }

    private static OrganWind twoStops() {
        OrganWind x = new OrganWind();
        x.draw(0, true);
        x.draw(7, true);
        x.press(0, 23, true);
        x.tick(5);
        return x;
    }

    private static void checksumWithOverflow() {
        Check.due("checksum of many pipes", manyPipes().checksum(),
                Checksum.of(StatePromisesTest::manyPipes, OTHER_SETTINGS));
    }

    private static OrganWind manyPipes() {
        OrganWind x = new OrganWind();
        for (int i = 0; i < 9; i++) {
            x.set(i, OTHER_SETTINGS[i]);
        }
        for (int stop = 0; stop < 8; stop++) {
            x.draw(stop, true);
        }
        for (int key = 0; key < 24; key += 5) {
            x.press(0, key, true);
        }
        x.cipher(5, 2, true);
        x.couple(true, true);
        x.tick(33);
        x.tune(0, 5);
        return x;
    }
}
