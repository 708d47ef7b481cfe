import java.util.Arrays;

/** All that can be seen of an object but status(), in one row of answers. The object is spoilt by looking. */
final class Sight {
    private static final int MOST_ANSWERS = 512;
    private static final long PATTERN = 0x0123456789abcd80L;

    private final HeldDoor x;
    private final long[] answers = new long[MOST_ANSWERS];
    private int size = 0;

    private Sight(HeldDoor x) {
        this.x = x;
    }

    static long[] of(HeldDoor x) {
        Sight sight = new Sight(x);
        sight.scene();
        sight.sheets();
        sight.add(x.undo());
        sight.scene();
        sight.add(x.morning());
        sight.scene();
        sight.add(x.tear());
        return Arrays.copyOf(sight.answers, sight.size);
    }

    private void add(long answer) {
        answers[size] = answer;
        size++;
    }

    private void scene() {
        for (int what = 0; what < 7; what++) {
            add(x.now(what));
        }
        for (int what = 0; what < 4; what++) {
            add(x.count(what));
        }
        int people = x.count(0);
        for (int p = 0; p < people; p++) {
            for (int what = 0; what < 7; what++) {
                add(x.of(p, what));
            }
        }
    }

    /** Each number with the place behind the last; what becomes of the pattern tells of how many bits they are. */
    private void sheets() {
        for (int s = 0; s < 4; s++) {
            for (int i = 0; i <= 40; i++) {
                add(x.write(s, i, PATTERN));
            }
            add(x.write(s, 0, 0));
        }
    }
}
