import java.util.function.Supplier;

/** The checksum of an organ, from its other answers. */
final class Checksum {
    private Checksum() {
    }

    /**
     * The settings cannot be asked for without a change, so they are told. The organ is made anew for
     * each stop, as all its pipes are too many to ask for in 512 calls.
     */
    static long of(Supplier<OrganWind> organ, int... settings) {
        OrganWind x = organ.get();
        long h = 151;
        for (int stop = 0; stop < 8; stop++) {
            for (int what = 0; what <= 4; what++) {
                h = 31 * h + x.stop(stop, what);
            }
        }
        for (int value : settings) {
            h = 31 * h + value;
        }
        for (int what = 0; what <= 9; what++) {
            h = 31 * h + x.tell(what);
        }
        for (int manual = 0; manual < 2; manual++) {
            for (int what = 0; what <= 2; what++) {
                h = 31 * h + x.chest(manual, what);
            }
        }
        h = 31 * h + x.strokes(0);
        h = 31 * h + x.strokes(1);
        for (int stop = 0; stop < 8; stop++) {
            h = ofOpenPipes(organ.get(), stop, h);
        }
        h = 31 * h + x.mistuned();
        h = 31 * h + x.search(0);
        return 31 * h + x.search(1);
    }

    private static long ofOpenPipes(OrganWind x, int stop, long start) {
        long h = start;
        for (int key = 0; key < 24; key++) {
            if (x.pipe(stop, key, 2) != OrganWind.NONE) {
                h = 31 * h + 100 * stop + key;
                for (int what = 0; what <= 4; what++) {
                    h = 31 * h + x.pipe(stop, key, what);
                }
                h = 31 * h + x.reason(stop, key);
            }
        }
        return h;
    }
}
