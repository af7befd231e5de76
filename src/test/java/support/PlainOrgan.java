import java.util.ArrayList;
import java.util.Arrays;
import java.util.List;
import java.util.regex.Matcher;
import java.util.regex.Pattern;

/**
 * The document told a second time, pipe by pipe and without any regard to speed, so that the
 * program can be held against it in long runs of calls.
 */
final class PlainOrgan {
    static final int BAD_INDEX = -1000001;
    static final int BAD_VALUE = -1000002;
    static final int NOT_POSSIBLE = -1000003;
    static final int FULL = -1000004;
    static final int NONE = -1000005;
    private static final int[][] RANGES = {
        {20, 200}, {0, 100}, {0, 100}, {100, 2000}, {1000, 20000}, {0, 20000}, {10, 500}, {1, 8}, {0, 32}};

    private static final class Pipe {
        int stop;
        int key;
        int need;
        int offset;
        int pressure;
        int asks;
        int gets;
        int pitch;
        boolean speaks;
    }

    private static final class Organ {
        int[] manual = new int[8];
        int[] demand = new int[8];
        int[] least = new int[8];
        boolean[] drawn = new boolean[8];
        int[] got = new int[8];
        boolean[][] ciphers = new boolean[8][24];
        int[][] offset = new int[8][24];
        boolean[][] pressed = new boolean[2][24];
        boolean manualCoupler;
        boolean octaveCoupler;
        int[] settings = {80, 10, 10, 500, 6000, 4000, 120, 4, 8};
        int v = 3000;
        int time;
        int made;
        int given;
        int spilled;
        int[] strokes = new int[2];
        List<Integer> partsToMake = new ArrayList<>();

        Organ() {
            for (int s = 0; s < 8; s++) {
                manual[s] = s % 2;
                demand[s] = 4 + 2 * s;
                least[s] = 20 + 5 * s;
            }
        }

        Organ copy() {
            Organ o = new Organ();
            o.manual = manual.clone();
            o.demand = demand.clone();
            o.least = least.clone();
            o.drawn = drawn.clone();
            o.got = got.clone();
            for (int s = 0; s < 8; s++) {
                o.ciphers[s] = ciphers[s].clone();
                o.offset[s] = offset[s].clone();
            }
            o.pressed[0] = pressed[0].clone();
            o.pressed[1] = pressed[1].clone();
            o.manualCoupler = manualCoupler;
            o.octaveCoupler = octaveCoupler;
            o.settings = settings.clone();
            o.v = v;
            o.time = time;
            o.made = made;
            o.given = given;
            o.spilled = spilled;
            o.strokes = strokes.clone();
            o.partsToMake = new ArrayList<>(partsToMake);
            return o;
        }

        boolean acts(int m, int key) {
            if (m == 0) {
                return pressed[0][key] || octaveCoupler && key >= 12 && pressed[0][key - 12];
            }
            return pressed[1][key] || manualCoupler && acts(0, key);
        }

        int need(int s, int key) {
            return demand[s] + down(23 - key, 4);
        }

        boolean isOpen(int s, int key) {
            return drawn[s] && (acts(manual[s], key) || ciphers[s][key]);
        }

        int pressure() {
            return v >= settings[3] ? settings[0] : down((long) settings[0] * v, settings[3]);
        }

        int needs(int m) {
            int sum = 0;
            for (int s = 0; s < 8; s++) {
                for (int key = 0; key < 24; key++) {
                    if (manual[s] == m && isOpen(s, key)) {
                        sum += need(s, key);
                    }
                }
            }
            return sum;
        }

        int chestPressure(int m) {
            return Math.max(0, pressure() - down((long) needs(m) * settings[1 + m], 100));
        }

        List<Pipe> pipes() {
            List<Pipe> list = new ArrayList<>();
            int[] chests = {chestPressure(0), chestPressure(1)};
            int left = v;
            for (int s = 0; s < 8; s++) {
                for (int key = 0; key < 24; key++) {
                    if (isOpen(s, key)) {
                        Pipe p = new Pipe();
                        p.stop = s;
                        p.key = key;
                        p.need = need(s, key);
                        p.offset = offset[s][key];
                        p.pressure = chests[manual[s]];
                        p.asks = down((long) p.need * p.pressure, settings[0]);
                        p.gets = p.asks > left ? left : p.asks;
                        left -= p.gets;
                        p.pitch = p.offset + down((long) (p.pressure - settings[0]) * settings[8], 16);
                        p.speaks = p.pressure >= least[s] && p.gets == p.asks && p.gets != 0;
                        list.add(p);
                    }
                }
            }
            return list;
        }

        Pipe pipe(int s, int key) {
            for (Pipe p : pipes()) {
                if (p.stop == s && p.key == key) {
                    return p;
                }
            }
            return null;
        }

        int speaking() {
            int n = 0;
            for (Pipe p : pipes()) {
                n += p.speaks ? 1 : 0;
            }
            return n;
        }

        int open() {
            return pipes().size();
        }

        int ciphering() {
            int n = 0;
            for (boolean[] row : ciphers) {
                for (boolean c : row) {
                    n += c ? 1 : 0;
                }
            }
            return n;
        }

        void tick() {
            if (partsToMake.isEmpty() && v < settings[5]) {
                strokes[(strokes[0] + strokes[1]) % 2]++;
                int stroke = settings[6];
                int ticks = settings[7];
                for (int i = 1; i < ticks; i++) {
                    partsToMake.add(stroke / ticks);
                }
                partsToMake.add(stroke - (ticks - 1) * (stroke / ticks));
            }
            if (!partsToMake.isEmpty()) {
                int part = partsToMake.remove(0);
                made += part;
                v += part;
                int over = Math.max(0, v - settings[4]);
                spilled += over;
                v -= over;
            }
            int flows = 0;
            for (Pipe p : pipes()) {
                got[p.stop] += p.gets;
                given += p.gets;
                flows += p.gets;
            }
            v -= flows;
            time++;
        }

        int strokeLeft() {
            int sum = 0;
            for (int part : partsToMake) {
                sum += part;
            }
            return sum;
        }
    }

    private Organ o = new Organ();
    private String text = "";
    private final List<Organ> history = new ArrayList<>();
    private final Organ[] slots = new Organ[2];

    private static int down(long dividend, long divisor) {
        return (int) Math.floor((double) dividend / divisor);
    }

    private static boolean out(int x, int least, int most) {
        return x < least || x > most;
    }

    private static boolean noPipe(int stop, int key) {
        return out(stop, 0, 7) || out(key, 0, 23);
    }

    private void record() {
        history.add(o.copy());
        if (history.size() > 5) {
            history.remove(0);
        }
    }

    int layOut(int stop, int manual, int demand, int least) {
        if (out(stop, 0, 7)) {
            return BAD_INDEX;
        }
        if (out(manual, 0, 1) || out(demand, 1, 40) || out(least, 0, 200)) {
            return BAD_VALUE;
        }
        record();
        int before = o.demand[stop];
        o.manual[stop] = manual;
        o.demand[stop] = demand;
        o.least[stop] = least;
        Arrays.fill(o.offset[stop], 0);
        return before;
    }

    int stop(int stop, int what) {
        if (out(stop, 0, 7)) {
            return BAD_INDEX;
        }
        if (out(what, 0, 4)) {
            return BAD_VALUE;
        }
        int[] told = {o.manual[stop], o.demand[stop], o.least[stop], o.drawn[stop] ? 1 : 0, o.got[stop]};
        return told[what];
    }

    int set(int setting, int value) {
        if (out(setting, 0, 8)) {
            return BAD_INDEX;
        }
        if (out(value, RANGES[setting][0], RANGES[setting][1])) {
            return BAD_VALUE;
        }
        record();
        int before = o.settings[setting];
        o.settings[setting] = value;
        return before;
    }

    int cipher(int stop, int key, boolean ciphers) {
        if (noPipe(stop, key)) {
            return BAD_INDEX;
        }
        if (ciphers && !o.ciphers[stop][key] && o.ciphering() == 6) {
            return FULL;
        }
        record();
        o.ciphers[stop][key] = ciphers;
        return o.ciphering();
    }

    int draw(int stop, boolean on) {
        if (out(stop, 0, 7)) {
            return BAD_INDEX;
        }
        record();
        o.drawn[stop] = on;
        int n = 0;
        for (boolean d : o.drawn) {
            n += d ? 1 : 0;
        }
        return n;
    }

    int press(int manual, int key, boolean on) {
        if (out(manual, 0, 1) || out(key, 0, 23)) {
            return BAD_INDEX;
        }
        record();
        o.pressed[manual][key] = on;
        int n = 0;
        for (boolean p : o.pressed[manual]) {
            n += p ? 1 : 0;
        }
        return n;
    }

    int couple(boolean manual, boolean octave) {
        record();
        int before = (o.manualCoupler ? 1 : 0) + (o.octaveCoupler ? 2 : 0);
        o.manualCoupler = manual;
        o.octaveCoupler = octave;
        return before;
    }

    int tick(int ticks) {
        if (out(ticks, 1, 200)) {
            return BAD_VALUE;
        }
        record();
        for (int i = 0; i < ticks; i++) {
            o.tick();
        }
        return o.v;
    }

    int append(int letter) {
        if (out(letter, 0, 127)) {
            return BAD_VALUE;
        }
        if (text.length() == 80) {
            return FULL;
        }
        text += (char) letter;
        return text.length();
    }

    int clearText() {
        int before = text.length();
        text = "";
        return before;
    }

    private static final String KEY = "(?:0|[1-9]|1[0-9]|2[0-3])";
    private static final String TICKS = "(?:[1-9][0-9]?|1[0-9][0-9]|200)";
    private static final Pattern ACT = Pattern.compile("[dr][0-7]|[pl][01]" + KEY + ";|t" + TICKS + ";");
    private static final Pattern HEAD = Pattern.compile("[dr]|[pl][01]?|t");
    private static final Pattern NUMBER = Pattern.compile("0|[1-9][0-9]{0,2}");

    /** Where the whole acts at the beginning of the text end. */
    private int endOfActs() {
        Matcher m = ACT.matcher(text);
        int at = 0;
        while (m.find(at) && m.start() == at) {
            at = m.end();
            if (at == text.length()) {
                break;
            }
        }
        return at;
    }

    int faultPosition() {
        int at = endOfActs();
        String rest = text.substring(at);
        if (rest.isEmpty()) {
            return NONE;
        }
        Matcher head = HEAD.matcher(rest);
        if (!head.lookingAt()) {
            return at;
        }
        at += head.end();
        boolean numberFollows = rest.charAt(0) == 't' || head.end() == 2;
        Matcher number = NUMBER.matcher(rest.substring(head.end()));
        if (numberFollows && number.lookingAt()) {
            int value = Integer.parseInt(number.group());
            boolean fits = rest.charAt(0) == 't' ? !out(value, 1, 200) : !out(value, 0, 23);
            return fits ? at + number.end() : at;
        }
        return at;
    }

    int play() {
        if (faultPosition() != NONE) {
            return NOT_POSSIBLE;
        }
        record();
        Matcher m = ACT.matcher(text);
        int acts = 0;
        while (m.find()) {
            String act = m.group();
            String digits = act.replaceAll("[a-z;]", "");
            char kind = act.charAt(0);
            if (kind == 'd' || kind == 'r') {
                o.drawn[Integer.parseInt(digits)] = kind == 'd';
            } else if (kind == 't') {
                for (int i = Integer.parseInt(digits); i > 0; i--) {
                    o.tick();
                }
            } else {
                o.pressed[digits.charAt(0) - '0'][Integer.parseInt(digits.substring(1))] = kind == 'p';
            }
            acts++;
        }
        return acts;
    }

    int tell(int what) {
        switch (what) {
            case 0: return o.v;
            case 1: return o.pressure();
            case 2: return o.time;
            case 3: return o.made;
            case 4: return o.given;
            case 5: return o.spilled;
            case 6: return o.open();
            case 7: return o.speaking();
            case 8: return o.ciphering();
            case 9: return o.strokeLeft();
            default: return BAD_INDEX;
        }
    }

    int chest(int manual, int what) {
        if (out(manual, 0, 1)) {
            return BAD_INDEX;
        }
        switch (what) {
            case 0: return o.chestPressure(manual);
            case 1: return o.needs(manual);
            case 2:
                int set = 0;
                for (int key = 23; key >= 0; key--) {
                    set = 2 * set + (o.acts(manual, key) ? 1 : 0);
                }
                return set;
            default: return BAD_VALUE;
        }
    }

    int strokes(int feeder) {
        return out(feeder, 0, 1) ? BAD_INDEX : o.strokes[feeder];
    }

    int pipe(int stop, int key, int what) {
        if (noPipe(stop, key)) {
            return BAD_INDEX;
        }
        if (out(what, 0, 4)) {
            return BAD_VALUE;
        }
        if (what < 2) {
            return what == 0 ? o.need(stop, key) : o.offset[stop][key];
        }
        Pipe p = o.pipe(stop, key);
        if (p == null) {
            return NONE;
        }
        return what == 2 ? p.asks : what == 3 ? p.gets : p.pitch;
    }

    int reason(int stop, int key) {
        if (noPipe(stop, key)) {
            return BAD_INDEX;
        }
        if (!o.drawn[stop]) {
            return 1;
        }
        Pipe p = o.pipe(stop, key);
        if (p == null) {
            return 2;
        }
        if (p.pressure < o.least[stop]) {
            return 3;
        }
        if (p.gets != p.asks) {
            return 4;
        }
        return p.asks == 0 ? 5 : 0;
    }

    int tune(int stop, int key) {
        if (noPipe(stop, key)) {
            return BAD_INDEX;
        }
        Pipe p = o.pipe(stop, key);
        if (p == null || !p.speaks) {
            return NOT_POSSIBLE;
        }
        int tuned = p.offset - p.pitch;
        if (out(tuned, -200, 200)) {
            return NOT_POSSIBLE;
        }
        record();
        o.offset[stop][key] = tuned;
        return p.offset;
    }

    int mistuned() {
        int greatest = NONE;
        List<Pipe> pipes = o.pipes();
        for (Pipe p : pipes) {
            for (Pipe q : pipes) {
                if (p.speaks && q.speaks) {
                    greatest = Math.max(greatest, p.pitch - q.pitch);
                }
            }
        }
        return greatest;
    }

    private boolean hears(int first, int end) {
        Organ test = o.copy();
        test.pressed = new boolean[2][24];
        for (int s = 0; s < 8; s++) {
            test.drawn[s] = s >= first && s < end;
        }
        return test.speaking() > 0;
    }

    int search(int what) {
        if (out(what, 0, 2)) {
            return BAD_INDEX;
        }
        int tests = 1;
        if (!hears(0, 8)) {
            return what == 1 ? tests : NONE;
        }
        int first = 0;
        int end = 8;
        while (end - first > 1) {
            int middle = first + (end - first) / 2;
            tests++;
            if (hears(first, middle)) {
                end = middle;
            } else {
                first = middle;
            }
        }
        if (what < 2) {
            return what == 0 ? first : tests;
        }
        for (int key = 0; key < 24; key++) {
            if (o.ciphers[first][key]) {
                return key;
            }
        }
        return NONE;
    }

    int robbed(int stop) {
        if (out(stop, 0, 7)) {
            return BAD_INDEX;
        }
        if (o.drawn[stop]) {
            return NOT_POSSIBLE;
        }
        Organ fuller = o.copy();
        fuller.drawn[stop] = true;
        int n = 0;
        for (Pipe p : o.pipes()) {
            n += p.speaks && !fuller.pipe(p.stop, p.key).speaks ? 1 : 0;
        }
        return n;
    }

    int lowest(int ticks) {
        if (out(ticks, 1, 1000)) {
            return BAD_VALUE;
        }
        Organ later = o.copy();
        int lowest = Integer.MAX_VALUE;
        for (int i = 0; i < ticks; i++) {
            later.tick();
            lowest = Math.min(lowest, later.v);
        }
        return lowest;
    }

    int undo() {
        if (history.isEmpty()) {
            return NOT_POSSIBLE;
        }
        o = history.remove(history.size() - 1);
        return history.size();
    }

    int save(int slot) {
        if (out(slot, 0, 1)) {
            return BAD_INDEX;
        }
        slots[slot] = o.copy();
        return o.time;
    }

    int restore(int slot) {
        if (out(slot, 0, 1)) {
            return BAD_INDEX;
        }
        if (slots[slot] == null) {
            return NOT_POSSIBLE;
        }
        record();
        o = slots[slot].copy();
        return o.time;
    }

    long checksum() {
        List<Integer> values = new ArrayList<>();
        for (int s = 0; s < 8; s++) {
            for (int what = 0; what < 5; what++) {
                values.add(stop(s, what));
            }
        }
        for (int setting : o.settings) {
            values.add(setting);
        }
        for (int what = 0; what < 10; what++) {
            values.add(tell(what));
        }
        for (int m = 0; m < 2; m++) {
            for (int what = 0; what < 3; what++) {
                values.add(chest(m, what));
            }
        }
        values.add(strokes(0));
        values.add(strokes(1));
        for (Pipe p : o.pipes()) {
            values.add(100 * p.stop + p.key);
            values.addAll(List.of(p.need, p.offset, p.asks, p.gets, p.pitch, reason(p.stop, p.key)));
        }
        values.add(mistuned());
        values.add(search(0));
        values.add(search(1));
        long h = 151;
        for (int value : values) {
            h = 31 * h + value;
        }
        return h;
    }
}
