import java.util.LinkedHashMap;
import java.util.Map;

/**
 * Each act with each of its arguments just inside and just outside of what it may be, in all their combinations
 * and in some states, put to the class and to the model: so that the findings' order is seen wherever two meet.
 */
public final class EdgeGridTest {
    private static final int LOWEST = Integer.MIN_VALUE;
    private static final int HIGHEST = Integer.MAX_VALUE;

    private static final int[] PERSON = {LOWEST, -1, 0, 2, 3, 7, 8, HIGHEST};
    private static final int[] KIND = {LOWEST, -1, 0, 2, 3, 5, 6, HIGHEST};
    private static final int[] FEET = {LOWEST, -1, 0, 999, 1000, HIGHEST};
    private static final int[] WHAT = {LOWEST, -2, -1, 0, 1, 2, 3, 4, 5, 6, 7, HIGHEST};
    private static final int[] VALUE = {LOWEST, -1, 0, 1, 2, 9, 10, 60, 61, 99, 100, 999, 1000, HIGHEST};
    private static final int[] SECONDS = {LOWEST, -1, 0, 1, 2, 99, 100, 101, 200, 201, 400, 401, HIGHEST};
    private static final int[] SHEET = {LOWEST, -1, 0, 1, 2, 3, 4, HIGHEST};
    private static final int[] BITS = {LOWEST, -1, 0, 1, 8, 16, 32, 64, 65, HIGHEST};
    private static final int[] SIZE = {LOWEST, -1, 0, 1, 3, 39, 40, 41, HIGHEST};
    private static final int[] PLACE = {LOWEST, -1, 0, 2, 3, 39, 40, HIGHEST};
    private static final int[] BYTES = {LOWEST, 0x20202020, 0x6e657731};
    private static final int[] FEW = {LOWEST, -1, 0, 1, 2, 3, 4, 5, HIGHEST};

    private static final String[][] STATES = {
        {},
        {"person 5 0", "person 1 60", "door 0 33", "image", "person 3 80", "set 2 1 0", "set 2 2 3", "set 2 5 4", "door 1 9",
            "seconds 2", "sheet 0 8 3", "sheet 1 16 40", "sheet 2 64 5", "write 0 1 -7", "write 1 39 700", "feed 1852143393 4"},
        {"person 0 8", "set 0 1 0", "person 0 0", "person 0 8", "set 2 1 0", "person 4 12", "person 5 4", "person 2 3",
            "set 5 2 9", "person 1 30", "person 3 9", "set 7 1 0", "sheet 0 16 3", "sheet 1 16 0", "sheet 3 16 40",
            "write 0 0 1000", "write 0 1 999", "write 0 2 -1"},
    };

    private static final Due due = new Due("EdgeGridTest");
    private static final Map<String, Act> acts = new LinkedHashMap<>();

    interface OnDoor {
        long act(HeldDoor x, int[] a);
    }

    interface OnModel {
        long act(Model m, int[] a);
    }

    private record Act(OnDoor onDoor, OnModel onModel, int[][] grids) {
    }

    public static void main(String[] args) {
        actsOfTheDoorAndPeople();
        actsOfSeconds();
        actsOfWhatIsBest();
        actsOfTextAndSheets();
        actsOfImages();
        due.is("acts", acts.size(), 35);
        for (String[] state : STATES) {
            for (String name : acts.keySet()) {
                Act act = acts.get(name);
                combine(state, name, act, new int[act.grids.length], 0);
            }
        }
        due.end();
    }

    private static void put(String name, OnDoor onDoor, OnModel onModel, int[]... grids) {
        acts.put(name, new Act(onDoor, onModel, grids));
    }

    private static void actsOfTheDoorAndPeople() {
        put("door", (x, a) -> x.door(a[0], a[1]), (m, a) -> m.door(a[0], a[1]), WHAT, VALUE);
        put("now", (x, a) -> x.now(a[0]), (m, a) -> m.now(a[0]), WHAT);
        put("person", (x, a) -> x.person(a[0], a[1]), (m, a) -> m.person(a[0], a[1]), KIND, FEET);
        put("of", (x, a) -> x.of(a[0], a[1]), (m, a) -> m.of(a[0], a[1]), PERSON, WHAT);
        put("set", (x, a) -> x.set(a[0], a[1], a[2]), (m, a) -> m.set(a[0], a[1], a[2]), PERSON, WHAT, VALUE);
        put("turn", (x, a) -> x.turn(a[0], a[1]), (m, a) -> m.turn(a[0], a[1]), PERSON, KIND);
        put("as", (x, a) -> x.as(a[0], a[1]), (m, a) -> m.as(a[0], a[1]), PERSON, KIND);
        put("holds", (x, a) -> x.holds(a[0], a[1]), (m, a) -> m.holds(a[0], a[1]), PERSON, PERSON);
        put("asks", (x, a) -> x.asks(a[0], a[1]), (m, a) -> m.asks(a[0], a[1]), PERSON, PERSON);
    }

    private static void actsOfSeconds() {
        put("seconds", (x, a) -> x.seconds(a[0]), (m, a) -> m.seconds(a[0]), SECONDS);
        put("on", (x, a) -> x.on(a[0], a[1], a[2]), (m, a) -> m.on(a[0], a[1], a[2]), PERSON, SECONDS, WHAT);
        put("loose", (x, a) -> x.loose(a[0]), (m, a) -> m.loose(a[0]), SECONDS);
        put("comes", (x, a) -> x.comes(a[0]), (m, a) -> m.comes(a[0]), PERSON);
        put("shuts", (x, a) -> x.shuts(), (m, a) -> m.shuts());
        put("all", (x, a) -> x.all(), (m, a) -> m.all());
    }

    private static void actsOfWhatIsBest() {
        put("care", (x, a) -> x.care(a[0]), (m, a) -> m.care(a[0]), SECONDS);
        put("kind", (x, a) -> x.kind(a[0], a[1]), (m, a) -> m.kind(a[0], a[1]), PERSON, SECONDS);
        put("far", (x, a) -> x.far(a[0], a[1]), (m, a) -> m.far(a[0], a[1]), PERSON, SECONDS);
        put("order", (x, a) -> x.order(a[0]), (m, a) -> m.order(a[0]), SECONDS);
        put("take", (x, a) -> x.take(a[0]), (m, a) -> m.take(a[0]), SECONDS);
        put("load", (x, a) -> x.load(a[0], a[1]), (m, a) -> m.load(a[0], a[1]), PERSON, SECONDS);
    }

    private static void actsOfTextAndSheets() {
        put("feed", (x, a) -> x.feed(a[0], a[1]), (m, a) -> m.feed(a[0], a[1]), BYTES, FEW);
        put("wipe", (x, a) -> x.wipe(), (m, a) -> m.wipe());
        put("morning", (x, a) -> x.morning(), (m, a) -> m.morning());
        put("sheet", (x, a) -> x.sheet(a[0], a[1], a[2]), (m, a) -> m.sheet(a[0], a[1], a[2]), SHEET, BITS, SIZE);
        put("write", (x, a) -> x.write(a[0], a[1], a[2]), (m, a) -> m.write(a[0], a[1], a[2]), SHEET, PLACE, VALUE);
        put("copy", (x, a) -> x.copy(a[0], a[1], a[2], a[3], a[4]), (m, a) -> m.copy(a[0], a[1], a[2], a[3], a[4]),
            SHEET, PLACE, SHEET, PLACE, FEW);
        put("lays", (x, a) -> x.lays(a[0]), (m, a) -> m.lays(a[0]), SHEET);
        put("book", (x, a) -> x.book(a[0], a[1]), (m, a) -> m.book(a[0], a[1]), SHEET, PERSON);
        put("read", (x, a) -> x.read(a[0], a[1]), (m, a) -> m.read(a[0], a[1]), SHEET, PERSON);
    }

    private static void actsOfImages() {
        put("image", (x, a) -> x.image(), (m, a) -> m.image());
        put("undo", (x, a) -> x.undo(), (m, a) -> m.undo());
        put("tear", (x, a) -> x.tear(), (m, a) -> m.tear());
        put("count", (x, a) -> x.count(a[0]), (m, a) -> m.count(a[0]), WHAT);
        put("status", (x, a) -> x.status(a[0]), (m, a) -> m.status(a[0]), WHAT);
    }

    private static void combine(String[] state, String name, Act act, int[] chosen, int at) {
        if (due.isWrong()) {
            return;
        }
        if (at == chosen.length) {
            tryOne(state, name, act, chosen);
            return;
        }
        for (int value : act.grids[at]) {
            chosen[at] = value;
            combine(state, name, act, chosen, at + 1);
        }
    }

    private static void tryOne(String[] state, String name, Act act, int[] chosen) {
        HeldDoor x = new HeldDoor();
        Model m = new Model();
        for (String line : state) {
            say(x, m, line);
        }
        String call = name + java.util.Arrays.toString(chosen) + " after " + state.length + " calls";
        due.is(call, act.onDoor.act(x, chosen), act.onModel.act(m, chosen));
        for (int what = 0; what < 7; what++) {
            due.is(call + ", now " + what, x.now(what), m.now(what));
            due.is(call + ", status " + what, x.status(what), m.status(what));
        }
        for (int what = 0; what < 4; what++) {
            due.is(call + ", count " + what, x.count(what), m.count(what));
        }
        int people = x.count(0);
        for (int p = 0; p < people; p++) {
            for (int what = 0; what < 7; what++) {
                due.is(call + ", of " + p + " " + what, x.of(p, what), m.of(p, what));
            }
        }
        for (int s = 0; s < 4; s++) {
            for (int i : new int[] {0, 1, 2, 3, 39, 40}) {
                due.is(call + ", number " + i + " of " + s, x.write(s, i, 0), m.write(s, i, 0));
            }
        }
    }

    private static void say(HeldDoor x, Model m, String line) {
        String[] words = line.split(" ");
        int[] a = new int[words.length - 1];
        for (int i = 0; i < a.length; i++) {
            a[i] = Integer.parseInt(words[i + 1]);
        }
        Act act = acts.get(words[0]);
        due.is(line, act.onDoor.act(x, a), act.onModel.act(m, a));
    }
}
