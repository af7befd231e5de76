import java.util.ArrayList;
import java.util.List;

/** Organs in states with which several tests begin, and all that an organ holds. */
final class Organs {
    private Organs() {
    }

    /**
     * An organ that holds just so much wind, 0 to 3000, and makes none, as its target is 0. All else is
     * as at first, but for the time and the wind that was got.
     */
    static OrganWind holding(int volume) {
        OrganWind x = new OrganWind();
        x.set(1, 0);
        x.set(2, 0);
        x.set(3, 100);
        x.set(5, 0);
        x.press(0, 23, true);
        // Eight pipes take 320 in a tick; at least 120 is left for the last tick, so the pressure stays full.
        int rest = 3000 - volume;
        layOutFor(x, 320);
        if (rest >= 320) {
            x.tick(rest / 320);
        }
        layOutFor(x, rest % 320);
        if (rest % 320 > 0) {
            x.tick(1);
        }
        for (int stop = 0; stop < 8; stop++) {
            x.layOut(stop, stop % 2, 4 + 2 * stop, 20 + 5 * stop);
            x.draw(stop, false);
        }
        x.press(0, 23, false);
        x.set(1, 10);
        x.set(2, 10);
        x.set(3, 500);
        Check.due("V to begin with", x.tell(0), volume);
        return x;
    }

    /** Lays out the stops so that their pipes of key 23 take an amount together. */
    private static void layOutFor(OrganWind x, int amount) {
        int rest = amount;
        for (int stop = 0; stop < 8; stop++) {
            int demand = Math.min(40, rest);
            x.draw(stop, demand > 0);
            if (demand > 0) {
                x.layOut(stop, 0, demand, 0);
            }
            rest -= demand;
        }
    }

    /**
     * An organ that holds 10, of which a pipe asks for a tenth of its need: the pressure is 20, the
     * weight 200, the low mark 100, and the chests lose nothing.
     */
    static OrganWind scarce() {
        OrganWind x = holding(10);
        x.set(0, 200);
        x.set(1, 0);
        x.set(2, 0);
        x.set(3, 100);
        return x;
    }

    /**
     * An organ in which something is heard with all stops, but with no lower half of a row: stop 4
     * takes pressure from stop 0, so that this leaves enough wind to stop 1; without stop 4 it does not.
     */
    static OrganWind heardOnlyWithAll() {
        OrganWind x = holding(99);
        x.set(3, 100);
        x.set(1, 30);
        x.set(2, 0);
        x.layOut(0, 0, 40, 200);
        x.layOut(1, 1, 40, 0);
        x.layOut(4, 0, 40, 200);
        int[] pipes = {0, 1, 102, 400, 401, 402};
        for (int pipe : pipes) {
            x.cipher(pipe / 100, pipe % 100, true);
        }
        return x;
    }

    /** Lays out a stop with the least pressure 0, draws it and has its pipe of key 23 cipher. */
    static void sound(OrganWind x, int stop, int manual, int need) {
        x.layOut(stop, manual, need, 0);
        x.draw(stop, true);
        x.cipher(stop, 23, true);
    }

    /** Puts these bytes in place of the text. */
    static void write(OrganWind x, String text) {
        x.clearText();
        for (int i = 0; i < text.length(); i++) {
            x.append(text.charAt(i));
        }
    }

    /** An organ with little as at first: six pipes cipher, a stroke is under way, history and slots are full. */
    static OrganWind rich() {
        OrganWind x = new OrganWind();
        x.layOut(2, 1, 9, 33);
        x.set(8, 32);
        int[] ciphers = {123, 204, 300, 511, 612, 707};
        for (int pipe : ciphers) {
            x.cipher(pipe / 100, pipe % 100, true);
        }
        for (int stop = 0; stop < 3; stop++) {
            x.draw(stop, true);
        }
        x.press(0, 5, true);
        x.press(0, 11, true);
        x.press(1, 2, true);
        x.couple(true, true);
        x.tick(7);
        x.tune(0, 5);
        x.save(0);
        x.press(0, 3, true);
        x.tick(3);
        x.save(1);
        x.set(4, 1800);
        x.tick(3);
        x.tune(1, 2);
        x.tune(2, 4);
        write(x, "d3p19;t6;l05;r0");
        return x;
    }

    /** Changes everything of the state of a rich organ, its text, history and slots aside. */
    static void change(OrganWind x) {
        x.tick(5);
        x.set(0, 150);
        for (int stop = 0; stop < 8; stop++) {
            x.draw(stop, true);
        }
        x.cipher(7, 7, false);
        x.cipher(0, 7, true);
        x.press(0, 11, false);
        x.press(0, 9, true);
        x.press(1, 2, false);
        x.press(1, 1, true);
        x.tick(3);
        for (int stop = 0; stop < 8; stop++) {
            x.tune(stop, 5);
            x.layOut(stop, stop < 3 ? 0 : 1, 30 + stop, stop);
        }
        for (int setting = 1; setting < 9; setting++) {
            x.set(setting, new int[] {0, 3, 4, 999, 1111, 2222, 33, 3, 5}[setting]);
        }
        x.couple(false, false);
        x.tick(9);
    }

    /** That a call left an organ in all as another one is that did not get it; this uses both up. */
    static void compare(String call, OrganWind x, OrganWind untouched) {
        List<Long> got = allOf(x);
        List<Long> want = allOf(untouched);
        Check.due("values told after " + call, got.size(), want.size());
        for (int i = 0; i < Math.min(got.size(), want.size()); i++) {
            Check.due("value " + i + " after " + call, got.get(i), want.get(i));
        }
    }

    /** All that can be asked of an organ, and what its history, slots and text bring; this uses it up. */
    static List<Long> allOf(OrganWind x) {
        List<Long> all = new ArrayList<>();
        look(x, all);
        for (int stop = 0; stop < 8; stop++) {
            for (int key = 0; key < 24; key++) {
                all.add((long) x.pipe(stop, key, 1));
            }
        }
        for (int left = x.undo(); left >= 0; left = x.undo()) {
            all.add((long) left);
            look(x, all);
        }
        for (int slot = 0; slot < 2; slot++) {
            all.add((long) x.restore(slot));
            look(x, all);
        }
        all.add((long) x.faultPosition());
        all.add((long) x.play());
        look(x, all);
        all.add((long) x.clearText());
        all.add((long) x.tick(9));
        look(x, all);
        return all;
    }

    private static void look(OrganWind x, List<Long> all) {
        all.add(x.checksum());
        all.add((long) x.lowest(1));
        all.add((long) x.lowest(9));
        all.add((long) x.search(2));
    }
}
