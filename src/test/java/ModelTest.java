import java.util.Random;

/** Runs of calls drawn by fixed seeds, each put to the class and to the model: the answers are to be the same. */
public final class ModelTest {
    private static final int RUNS = 400;
    private static final int CALLS = 512;
    private static final int ACTS = 36;
    private static final String[] WORDS = {"worker", "new", "old", "stranger", "tester", "guard", "load", "bare", "care", "open"};

    private final Random random;
    private final HeldDoor x = new HeldDoor();
    private final Model model = new Model();
    private final Due due;
    private final int run;

    private ModelTest(int run, Due due) {
        this.random = new Random(run);
        this.run = run;
        this.due = due;
    }

    public static void main(String[] args) {
        Due due = new Due("ModelTest");
        for (int run = 0; run < RUNS && !due.isWrong(); run++) {
            new ModelTest(run, due).go();
        }
        due.end();
    }

    private void go() {
        int calls = 0;
        // Some runs begin with a row of people, so that the seconds have much to do.
        if (run % 4 != 0) {
            calls += people();
        }
        while (calls < CALLS - 40 && !due.isWrong()) {
            if (random.nextInt(40) == 0) {
                calls += text(random.nextBoolean() ? goodText() : badText());
            } else {
                act(random.nextInt(ACTS));
                calls++;
            }
            if (random.nextInt(40) == 0) {
                calls += look();
            }
        }
    }

    private int people() {
        int n = 1 + random.nextInt(8);
        for (int p = 0; p < n; p++) {
            int kind = random.nextInt(6);
            int feet = random.nextInt(run % 4 == 1 ? 30 : 200);
            is("person", x.person(kind, feet), model.person(kind, feet));
            int badge = random.nextInt(3) == 0 ? 0 : 1;
            is("set", x.set(p, 1, badge), model.set(p, 1, badge));
            int load = random.nextInt(3) == 0 ? random.nextInt(10) : 0;
            is("set", x.set(p, 2, load), model.set(p, 2, load));
        }
        return 3 * n;
    }

    /** What can be seen from outside, whole. */
    private int look() {
        int looks = 0;
        for (int what = 0; what < 7; what++, looks++) {
            is("now " + what, x.now(what), model.now(what));
        }
        int p = person();
        for (int what = 0; what < 7; what++, looks++) {
            is("of " + p + " " + what, x.of(p, what), model.of(p, what));
        }
        is("status", x.status(-1), model.status(-1));
        return looks + 1;
    }

    private void is(String call, long got, long want) {
        due.is("run " + run + ": " + call, got, want);
    }

    private int text(String text) {
        int calls = 1;
        for (int i = 0; i < text.length(); i += 4, calls++) {
            int n = Math.min(4, text.length() - i);
            int bytes = random.nextInt();
            for (int k = 0; k < n; k++) {
                bytes = bytes << 8 | text.charAt(i + k) & 255;
            }
            is("feed", x.feed(bytes, n), model.feed(bytes, n));
        }
        is("morning of " + text, x.morning(), model.morning());
        return calls;
    }

    private String goodText() {
        StringBuilder b = new StringBuilder();
        int items = 1 + random.nextInt(5);
        for (int i = 0; i < items; i++) {
            b.append(i == 0 ? "" : random.nextBoolean() ? ";" : " ; ");
            int word = random.nextInt(8);
            if (word < 6) {
                b.append(WORDS[word]).append(' ').append(random.nextInt(60));
                b.append(random.nextInt(3) == 0 ? "load" + random.nextInt(10) : "");
                b.append(random.nextInt(2) == 0 ? " bare" : "");
            } else {
                b.append(WORDS[word + 2]).append(random.nextInt(word == 6 ? 100 : 61));
            }
        }
        return b.length() > 110 ? b.substring(0, 110) : b.toString();
    }

    /** A good one with a sign or two put in, left out or changed, or words at random. */
    private String badText() {
        StringBuilder b = new StringBuilder(goodText());
        if (random.nextInt(3) == 0) {
            b.setLength(0);
            int tokens = random.nextInt(12);
            for (int i = 0; i < tokens; i++) {
                int draw = random.nextInt(4);
                b.append(draw == 0 ? WORDS[random.nextInt(10)] : draw == 1 ? "" + random.nextInt(1100) : draw == 2 ? ";" : " ");
            }
            return b.length() > 110 ? b.substring(0, 110) : b.toString();
        }
        int changes = 1 + random.nextInt(2);
        for (int i = 0; i < changes && b.length() > 0; i++) {
            int at = random.nextInt(b.length());
            char sign = random.nextInt(6) == 0 ? (char) random.nextInt(256) : "aeklornw059; ".charAt(random.nextInt(13));
            switch (random.nextInt(4)) {
                case 0 -> b.insert(at, sign);
                case 1 -> b.deleteCharAt(at);
                case 2 -> b.setCharAt(at, sign);
                default -> b.setLength(at);
            }
        }
        return b.toString();
    }

    private boolean rarely() {
        return random.nextInt(12) == 0;
    }

    /** A number from 0 to most, or, rarely, one about the edges or far off. */
    private int from(int least, int most) {
        if (!rarely()) {
            return least + random.nextInt(most - least + 1);
        }
        int[] odd = {least - 1, most + 1, least, most, -1, Integer.MIN_VALUE, Integer.MAX_VALUE, random.nextInt()};
        return odd[random.nextInt(odd.length)];
    }

    private int person() {
        int n = model.now.people.size();
        return n == 0 || rarely() ? from(0, 8) : random.nextInt(n);
    }

    private int sheetNumber() {
        return from(0, 3);
    }

    private int bits() {
        int[] widths = {8, 16, 64, 8, 16, 64, 0, 32};
        return widths[random.nextInt(widths.length)];
    }

    private long number() {
        return switch (random.nextInt(4)) {
            case 0 -> random.nextLong();
            case 1 -> random.nextInt(2000) - 500;
            default -> random.nextInt(128);
        };
    }

    private void act(int act) {
        if (act < 12) {
            actOnPeople(act);
        } else if (act < 23) {
            actOfLookingAhead(act);
        } else {
            actOfKeeping(act);
        }
    }

    private void actOnPeople(int act) {
        int p = person();
        int q = person();
        int kind = from(0, 5);
        int feet = random.nextInt(3) == 0 ? from(0, 999) : from(0, 40);
        int what = from(0, 6);
        switch (act) {
            case 0 -> {
                what = from(0, 1);
                int v = from(0, what == 1 ? 60 : 99);
                is("door " + what + " " + v, x.door(what, v), model.door(what, v));
            }
            case 1 -> is("now " + what, x.now(what), model.now(what));
            case 2 -> is("person " + kind + " " + feet, x.person(kind, feet), model.person(kind, feet));
            case 3 -> is("of " + p + " " + what, x.of(p, what), model.of(p, what));
            case 4, 5 -> {
                int[] most = {9, 1, 9, 60, 1, 999};
                int v = from(0, what >= 0 && what < 6 ? most[what] : 1);
                is("set " + p + " " + what + " " + v, x.set(p, what, v), model.set(p, what, v));
            }
            case 6 -> is("turn " + p + " " + kind, x.turn(p, kind), model.turn(p, kind));
            case 7 -> is("as " + p + " " + kind, x.as(p, kind), model.as(p, kind));
            case 8 -> is("holds " + p + " " + q, x.holds(p, q), model.holds(p, q));
            case 9 -> is("asks " + p + " " + q, x.asks(p, q), model.asks(p, q));
            case 10 -> {
                int n = random.nextInt(4) == 0 ? from(1, 200) : from(1, 6);
                is("seconds " + n, x.seconds(n), model.seconds(n));
            }
            default -> {
                // One comes out again, a bit off, so that a run doesn't end with all in.
                is("set " + p + " 4 0", x.set(p, 4, 0), model.set(p, 4, 0));
                is("set " + p + " 3 " + feet, x.set(p, 3, feet), model.set(p, 3, feet));
            }
        }
    }

    private void actOfLookingAhead(int act) {
        int p = person();
        int n = from(1, random.nextBoolean() ? 100 : 10);
        int long4 = from(0, random.nextBoolean() ? 400 : 20);
        switch (act) {
            case 12 -> {
                int what = from(0, 2);
                is("on " + p + " " + long4 + " " + what, x.on(p, long4, what), model.on(p, long4, what));
            }
            case 13 -> is("loose " + long4, x.loose(long4), model.loose(long4));
            case 14 -> is("comes " + p, x.comes(p), model.comes(p));
            case 15 -> is("shuts", x.shuts(), model.shuts());
            case 16 -> is("all", x.all(), model.all());
            case 17 -> is("care " + n, x.care(n), model.care(n));
            case 18 -> is("kind " + p + " " + n, x.kind(p, n), model.kind(p, n));
            case 19 -> is("far " + p + " " + n, x.far(p, n), model.far(p, n));
            case 20 -> is("order " + n, x.order(n), model.order(n));
            case 21 -> is("take " + n, x.take(n), model.take(n));
            default -> is("load " + p + " " + n, x.load(p, n), model.load(p, n));
        }
    }

    private void actOfKeeping(int act) {
        int s = sheetNumber();
        int t = sheetNumber();
        int p = person();
        switch (act) {
            case 23 -> {
                int bytes = random.nextInt();
                int n = from(1, 4);
                is("feed " + n, x.feed(bytes, n), model.feed(bytes, n));
            }
            case 24 -> is("wipe", x.wipe(), model.wipe());
            case 25 -> {
                int bits = bits();
                int n = from(0, random.nextBoolean() ? 40 : 8);
                is("sheet " + s + " " + bits + " " + n, x.sheet(s, bits, n), model.sheet(s, bits, n));
            }
            case 26, 27 -> {
                int i = from(0, random.nextBoolean() ? 39 : 7);
                long v = number();
                is("write " + s + " " + i + " " + v, x.write(s, i, v), model.write(s, i, v));
            }
            case 28 -> {
                int a = from(0, 6);
                int b = from(0, 6);
                int n = from(0, 8);
                is("copy " + s + " " + a + " " + t + " " + b + " " + n, x.copy(s, a, t, b, n), model.copy(s, a, t, b, n));
            }
            case 29 -> is("lays " + s, x.lays(s), model.lays(s));
            case 30 -> {
                is("book " + s + " " + p, x.book(s, p), model.book(s, p));
                is("read " + s + " " + p, x.read(s, p), model.read(s, p));
            }
            case 31 -> is("read " + s + " " + p, x.read(s, p), model.read(s, p));
            case 32 -> is("image", x.image(), model.image());
            case 33 -> is("undo", x.undo(), model.undo());
            case 34 -> {
                if (random.nextInt(3) == 0) {
                    is("tear", x.tear(), model.tear());
                }
                int what = from(0, 3);
                is("count " + what, x.count(what), model.count(what));
            }
            default -> {
                int which = from(-1, 6);
                is("status " + which, x.status(which), model.status(which));
            }
        }
    }
}
