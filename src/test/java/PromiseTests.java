/** For each promise of the document: ordinary inputs, the edges that it names, and wrong inputs. */
public final class PromiseTests {
    private static final int BEYOND = Due.BEYOND;
    private static final int FULL = Due.FULL;
    private static final int KIND = Due.KIND;
    private static final int NONE = Due.NONE;
    private static final int MISSING = Due.MISSING;
    private static final int SIZE = Due.SIZE;

    private static final int WORKER = 0;
    private static final int NEW = 1;
    private static final int OLD = 2;
    private static final int STRANGER = 3;
    private static final int TESTER = 4;
    private static final int GUARD = 5;

    private static final int LOWEST = Integer.MIN_VALUE;
    private static final int HIGHEST = Integer.MAX_VALUE;

    private static final Due due = new Due("PromiseTests");

    public static void main(String[] args) {
        promise1New();
        promise2Door();
        promise3Now();
        promise4Person();
        promise5Of();
        promise6Set();
        promise7Turn();
        promise8As();
        promise9Holds();
        promise10Asks();
        promise11SecondsShut();
        promise11SecondsOpen();
        promise11SecondsHeldFor();
        promise11SecondsAtTheEnd();
        promise12On();
        promise13Loose();
        promise14Comes();
        promise15Shuts();
        promise16All();
        promise17Care();
        promise18Kind();
        promise19Far();
        promise20Order();
        promise21Take();
        promise22Load();
        promise23Feed();
        promise24Wipe();
        promise25MorningTold();
        promise25MorningFaults();
        promise25MorningNinth();
        promise26Sheet();
        promise27Write();
        promise28Copy();
        promise29Lays();
        promise30Book();
        promise31Read();
        promise32Image();
        promise33Undo();
        promise34Tear();
        promise35Count();
        promise36Status();
        due.end();
    }

    private static HeldDoor withOne(int kind, int feet) {
        HeldDoor x = new HeldDoor();
        x.person(kind, feet);
        return x;
    }

    private static void promise1New() {
        HeldDoor x = new HeldDoor();
        due.is("1 second", x.now(0), 0);
        due.is("1 care", x.now(1), 20);
        due.is("1 open", x.now(2), 0);
        due.is("1 by", x.now(3), -1);
        due.is("1 in", x.now(4), 0);
        due.is("1 loose", x.now(5), 0);
        due.is("1 asked", x.now(6), 0);
        due.is("1 people", x.count(0), 0);
        due.is("1 tape", x.count(1), 0);
        due.is("1 findings", x.status(-1), 0);
        due.is("1 no image", x.tear(), 0);
        for (int s = 0; s < 4; s++) {
            due.is("1 no sheet", x.lays(s), MISSING);
        }
        due.is("1 undo", x.undo(), NONE);
    }

    private static void promise2Door() {
        HeldDoor x = new HeldDoor();
        due.is("2 care", x.door(0, 99), 20);
        due.is("2 care", x.door(0, 0), 99);
        due.is("2 care", x.door(0, 7), 0);
        due.is("2 open", x.door(1, 60), 0);
        due.is("2 open", x.door(1, 0), 60);
        due.is("2 open", x.door(1, 3), 0);
        int[] wrong = {0, -1, 0, 100, 1, -1, 1, 61, 2, 0, -1, 0, LOWEST, 0, HIGHEST, 0, 0, LOWEST, 1, HIGHEST};
        for (int i = 0; i < wrong.length; i += 2) {
            due.is("2 wrong", x.door(wrong[i], wrong[i + 1]), BEYOND);
        }
        due.is("2 care stays", x.now(1), 7);
        due.is("2 open stays", x.now(2), 3);
        due.is("2 findings", x.status(0), 10);
    }

    private static void promise3Now() {
        HeldDoor x = new HeldDoor();
        x.person(WORKER, 0);
        x.person(STRANGER, 0);
        x.person(WORKER, 500);
        x.set(1, 1, 0);
        x.set(2, 5, 40);
        x.set(0, 5, 2);
        x.door(1, 9);
        x.door(0, 30);
        x.seconds(1);
        due.is("3 second", x.now(0), 1);
        due.is("3 care", x.now(1), 30);
        due.is("3 open", x.now(2), 8);
        due.is("3 by", x.now(3), 1);
        due.is("3 in", x.now(4), 3);
        due.is("3 loose", x.now(5), 2);
        due.is("3 asked", x.now(6), 42);
        x.set(1, 1, 1);
        due.is("3 loose with a badge", x.now(5), 0);
        x.set(2, 1, 0);
        due.is("3 outside without a badge", x.now(5), 0);
        int[] wrong = {-1, 7, LOWEST, HIGHEST};
        for (int what : wrong) {
            due.is("3 wrong", x.now(what), BEYOND);
        }
    }

    private static void promise4Person() {
        HeldDoor x = new HeldDoor();
        int[] wrong = {-1, 0, 6, 0, 0, -1, 0, 1000, LOWEST, 0, HIGHEST, 0, 0, LOWEST, 0, HIGHEST};
        for (int i = 0; i < wrong.length; i += 2) {
            due.is("4 wrong", x.person(wrong[i], wrong[i + 1]), BEYOND);
        }
        due.is("4 none came", x.count(0), 0);
        for (int p = 0; p < 8; p++) {
            due.is("4 number", x.person(p % 6, p == 7 ? 999 : p), p);
            due.is("4 kind", x.of(p, 0), p % 6);
            due.is("4 badge", x.of(p, 1), 1);
            due.is("4 load", x.of(p, 2), 0);
            due.is("4 feet", x.of(p, 3), p == 7 ? 999 : p);
            due.is("4 in", x.of(p, 4), 0);
            due.is("4 asked", x.of(p, 5), 0);
        }
        due.is("4 ninth", x.person(0, 0), FULL);
        due.is("4 beyond before full", x.person(6, 0), BEYOND);
        due.is("4 beyond before full", x.person(0, 1000), BEYOND);
        due.is("4 people", x.count(0), 8);
        // One that comes again where an undone one stood has nothing of that one's.
        HeldDoor y = new HeldDoor();
        y.image();
        y.person(GUARD, 9);
        y.set(0, 1, 0);
        y.set(0, 2, 3);
        y.set(0, 4, 1);
        y.set(0, 5, 8);
        y.undo();
        y.person(WORKER, 1);
        due.is("4 new kind", y.of(0, 0), WORKER);
        due.is("4 new badge", y.of(0, 1), 1);
        due.is("4 new load", y.of(0, 2), 0);
        due.is("4 new in", y.of(0, 4), 0);
        due.is("4 new asked", y.of(0, 5), 0);
    }

    private static void promise5Of() {
        // GOES: shut and open, with a load of 0, 1, 4, 5 and 9, a row a kind.
        int[] loads = {0, 1, 4, 5, 9};
        int[][] shut = {{4, 4, 4, 3, 3}, {4, 4, 4, 3, 3}, {3, 3, 3, 2, 2}, {4, 4, 4, 3, 3}, {3, 3, 3, 2, 2}, {3, 3, 3, 2, 2}};
        int[][] open = {{4, 4, 4, 3, 3}, {4, 4, 4, 3, 3}, {3, 3, 3, 2, 2}, {7, 6, 6, 5, 5}, {6, 5, 5, 4, 4}, {3, 3, 3, 2, 2}};
        for (int k = 0; k < 6; k++) {
            HeldDoor x = withOne(k, 50);
            for (int i = 0; i < loads.length; i++) {
                x.set(0, 2, loads[i]);
                x.door(1, 0);
                due.is("5 goes shut, kind " + k, x.of(0, 6), shut[k][i]);
                x.door(1, 1);
                due.is("5 goes open, kind " + k, x.of(0, 6), open[k][i]);
            }
        }
        HeldDoor x = withOne(OLD, 77);
        x.set(0, 2, 4);
        x.set(0, 5, 6);
        int[] values = {OLD, 1, 4, 77, 0, 6, 3};
        for (int what = 0; what < 7; what++) {
            due.is("5 of", x.of(0, what), values[what]);
        }
        int[] wrong = {0, -1, 0, 7, 1, 0, -1, 0, LOWEST, 6, HIGHEST, 6, 0, LOWEST, 0, HIGHEST, 1, 6};
        for (int i = 0; i < wrong.length; i += 2) {
            due.is("5 wrong", x.of(wrong[i], wrong[i + 1]), BEYOND);
        }
    }

    private static void promise6Set() {
        HeldDoor x = withOne(WORKER, 50);
        int[] most = {-1, 1, 9, 999, 1, 999};
        int[] first = {-1, 1, 0, 50, 0, 0};
        for (int what = 1; what <= 5; what++) {
            due.is("6 was", x.set(0, what, 0), first[what]);
            due.is("6 was", x.set(0, what, most[what]), 0);
            due.is("6 beyond", x.set(0, what, most[what] + 1), BEYOND);
            due.is("6 beyond", x.set(0, what, -1), BEYOND);
            due.is("6 beyond", x.set(0, what, LOWEST), BEYOND);
            due.is("6 beyond", x.set(0, what, HIGHEST), BEYOND);
            due.is("6 is", x.of(0, what), most[what]);
        }
        int[] wrong = {0, 0, 0, 6, 0, -1, 1, 1, -1, 1, LOWEST, 2, HIGHEST, 2, 0, LOWEST, 0, HIGHEST};
        for (int i = 0; i < wrong.length; i += 2) {
            due.is("6 wrong", x.set(wrong[i], wrong[i + 1], 0), BEYOND);
        }
        due.is("6 kind stays", x.of(0, 0), WORKER);
        due.is("6 in without coming", x.now(3), -1);
    }

    private static void promise7Turn() {
        HeldDoor x = withOne(NEW, 50);
        due.is("7 was", x.turn(0, GUARD), NEW);
        due.is("7 was", x.turn(0, WORKER), GUARD);
        due.is("7 is", x.of(0, 0), WORKER);
        int[] wrong = {0, -1, 0, 6, 1, 0, -1, 0, LOWEST, 0, HIGHEST, 0, 0, LOWEST, 0, HIGHEST};
        for (int i = 0; i < wrong.length; i += 2) {
            due.is("7 wrong", x.turn(wrong[i], wrong[i + 1]), BEYOND);
        }
        due.is("7 stays", x.of(0, 0), WORKER);
    }

    private static void promise8As() {
        // A row a kind of the one, a column a kind as which it is looked at.
        int[][] is = {{1, 0, 0, 0, 0, 0}, {1, 1, 0, 0, 0, 0}, {1, 0, 1, 0, 0, 0}, {1, 0, 0, 1, 0, 0}, {1, 0, 0, 1, 1, 0}, {1, 0, 1, 0, 0, 1}};
        for (int k = 0; k < 6; k++) {
            HeldDoor x = withOne(k, 30 + k);
            for (int as = 0; as < 6; as++) {
                due.is("8 kind " + k + " as " + as, x.as(0, as), is[k][as] == 1 ? 30 + k : KIND);
            }
            due.is("8 wrong", x.as(0, 6), BEYOND);
            due.is("8 wrong", x.as(0, -1), BEYOND);
            due.is("8 wrong", x.as(1, 0), BEYOND);
            due.is("8 wrong", x.as(-1, 0), BEYOND);
            due.is("8 wrong", x.as(LOWEST, HIGHEST), BEYOND);
        }
    }

    private static void promise9Holds() {
        // A row a kind: for one 0, 3, 4, 11, 12 and 999 feet off, first without a load, then with 3.
        int[] feet = {0, 3, 4, 11, 12, 999};
        int[][] bare = {{1, 1, 2, 3, 0, 0}, {0, 0, 0, 0, 0, 0}, {1, 1, 2, 3, 0, 0}, {9, 9, 9, 9, 9, 9}, {0, 0, 0, 0, 0, 0}, {1, 1, 2, 3, 0, 0}};
        int[][] laden = {{1, 1, 2, 3, 0, 0}, {1, 1, 2, 3, 0, 0}, {4, 4, 5, 6, 3, 3}, {9, 9, 9, 9, 9, 9}, {0, 0, 0, 0, 0, 0}, {4, 4, 5, 6, 3, 3}};
        for (int k = 0; k < 6; k++) {
            HeldDoor x = withOne(k, 50);
            x.person(STRANGER, 0);
            for (int i = 0; i < feet.length; i++) {
                x.set(1, 3, feet[i]);
                x.set(1, 2, 0);
                due.is("9 kind " + k + " for " + feet[i], x.holds(0, 1), bare[k][i]);
                x.set(1, 2, 3);
                due.is("9 kind " + k + " for laden " + feet[i], x.holds(0, 1), laden[k][i]);
                x.set(1, 1, 0);
                due.is("9 kind " + k + " without badge", x.holds(0, 1), k == GUARD ? 0 : laden[k][i]);
                x.set(1, 1, 1);
            }
            due.is("9 same", x.holds(0, 0), BEYOND);
            due.is("9 wrong", x.holds(0, 2), BEYOND);
            due.is("9 wrong", x.holds(2, 0), BEYOND);
            due.is("9 wrong", x.holds(-1, 0), BEYOND);
            due.is("9 wrong", x.holds(0, LOWEST), BEYOND);
        }
    }

    private static void promise10Asks() {
        // The least care with which a kind asks one without a load, and one with (100: never).
        int[] without = {50, 20, 90, 100, 100, 10};
        int[] with = {100, 20, 90, 100, 100, 10};
        for (int k = 0; k < 6; k++) {
            HeldDoor x = withOne(k, 50);
            x.person(WORKER, 0);
            for (int c = 0; c < 100; c++) {
                x.door(0, c);
                x.set(1, 2, 0);
                due.is("10 kind " + k + " at care " + c, x.asks(0, 1), c >= without[k] ? 1 : 0);
                x.set(1, 2, 1);
                due.is("10 kind " + k + " at care " + c + " the laden", x.asks(0, 1), c >= with[k] ? 1 : 0);
            }
            due.is("10 same", x.asks(1, 1), BEYOND);
            due.is("10 wrong", x.asks(0, 2), BEYOND);
            due.is("10 wrong", x.asks(2, 0), BEYOND);
            due.is("10 wrong", x.asks(-1, HIGHEST), BEYOND);
        }
    }

    private static void promise11SecondsShut() {
        HeldDoor x = withOne(WORKER, 9);
        x.person(WORKER, 4);
        x.set(1, 1, 0);
        due.is("11 first", x.seconds(1), 0);
        due.is("11 feet", x.of(0, 3), 5);
        due.is("11 waits bare", x.of(1, 3), 0);
        due.is("11 second", x.seconds(1), 0);
        due.is("11 feet", x.of(0, 3), 1);
        // 0 comes in by its badge, holds it 1 second for 1 that stands at the door, who comes behind it.
        due.is("11 third", x.seconds(1), 3);
        due.is("11 by", x.now(3), 1);
        due.is("11 open", x.now(2), 0);
        due.is("11 loose", x.now(5), 2);
        due.is("11 not asked", x.now(6), 0);
        due.is("11 many", x.seconds(200), 3);
        due.is("11 seconds gone", x.now(0), 203);
        int[] wrong = {0, -1, 201, LOWEST, HIGHEST};
        for (int n : wrong) {
            due.is("11 wrong", x.seconds(n), BEYOND);
        }
        due.is("11 stays", x.now(0), 203);
        // A lower number goes first: 0 waits still when 1 comes, and is too late for a door that fell shut.
        HeldDoor y = withOne(STRANGER, 0);
        y.set(0, 1, 0);
        y.person(NEW, 0);
        due.is("11 too late", y.seconds(1), 2);
        due.is("11 new holds not for one without a load", y.now(2), 0);
        due.is("11 still outside", y.seconds(200), 2);
        HeldDoor z = withOne(STRANGER, 0);
        z.set(0, 1, 0);
        z.person(WORKER, 0);
        due.is("11 next", z.seconds(1), 2);
        due.is("11 held 1 second, which is over", z.now(2), 0);
        due.is("11 never", z.seconds(200), 2);
    }

    private static void promise11SecondsOpen() {
        // A guard that holds asks at care 20: one with a badge comes in asked, one without is sent away.
        HeldDoor x = withOne(GUARD, 0);
        x.person(WORKER, 4);
        x.person(STRANGER, 4);
        x.set(1, 2, 4);
        x.set(2, 1, 0);
        x.set(2, 5, 998);
        due.is("11 guard", x.seconds(1), 7);
        due.is("11 asked once", x.of(1, 5), 1);
        due.is("11 worker asks not at 20", x.of(2, 5), 998);
        // The guard held 1 + 4; the worker that came behind it asks only from 50 on.
        due.is("11 open", x.now(2), 4);
        HeldDoor y = withOne(GUARD, 0);
        y.person(STRANGER, 0);
        y.set(1, 1, 0);
        y.set(1, 5, 998);
        y.door(1, 20);
        due.is("11 guard alone", y.seconds(1), 1);
        due.is("11 sent away", y.of(1, 3), 99);
        due.is("11 asked", y.of(1, 5), 999);
        // 99 feet at 7 in a second: there again after 15.
        due.is("11 again", y.seconds(14), 1);
        due.is("11 feet", y.of(1, 3), 1);
        due.is("11 again", y.seconds(1), 1);
        due.is("11 sent away again", y.of(1, 3), 99);
        due.is("11 held to 999", y.of(1, 5), 999);
        due.is("11 open", y.now(2), 4);
        // Nobody is BY: an open door asks none.
        HeldDoor z = withOne(STRANGER, 7);
        z.set(0, 1, 0);
        z.door(0, 99);
        z.door(1, 1);
        due.is("11 runs in", z.seconds(1), 1);
        due.is("11 not asked", z.of(0, 5), 0);
        due.is("11 by", z.now(3), 0);
        // One that holds it for nobody, set back outside, asks itself.
        HeldDoor w = withOne(WORKER, 0);
        w.door(0, 50);
        w.seconds(1);
        w.set(0, 4, 0);
        w.set(0, 1, 0);
        w.door(1, 2);
        due.is("11 asks itself", w.seconds(1), 0);
        due.is("11 sends itself away", w.of(0, 3), 99);
    }

    private static void promise11SecondsHeldFor() {
        // Held for the nearest outside: least feet, of several the least number.
        HeldDoor x = withOne(OLD, 0);
        x.person(WORKER, 15);
        x.person(WORKER, 12);
        x.person(WORKER, 12);
        x.set(2, 2, 1);
        x.set(3, 2, 7);
        x.seconds(1);
        due.is("11 for number 2 at 8 feet: 3 and 1, less 1", x.now(2), 3);
        // One inside is not the nearest one, and the holder is not either.
        HeldDoor y = withOne(OLD, 0);
        y.person(WORKER, 0);
        y.person(WORKER, 15);
        y.set(1, 4, 1);
        y.set(1, 2, 9);
        y.seconds(1);
        due.is("11 for 11 feet: 3, less 1", y.now(2), 2);
        // OPEN stays as it is where it is more, and what is held is never taken off.
        HeldDoor z = withOne(STRANGER, 0);
        z.person(WORKER, 500);
        z.door(1, 30);
        z.seconds(1);
        due.is("11 more already", z.now(2), 29);
        z.set(0, 4, 0);
        z.door(1, 9);
        z.seconds(1);
        due.is("11 as much already", z.now(2), 8);
        z.set(0, 4, 0);
        z.door(1, 3);
        z.seconds(1);
        due.is("11 more now", z.now(2), 8);
        // Nobody left outside: 0.
        HeldDoor w = withOne(STRANGER, 0);
        w.seconds(1);
        due.is("11 for nobody", w.now(2), 0);
        // How fast one goes is by the door as the second began, though it opens in it.
        HeldDoor v = withOne(STRANGER, 0);
        v.person(STRANGER, 40);
        v.seconds(1);
        due.is("11 shut as it began", v.of(1, 3), 36);
        v.seconds(1);
        due.is("11 open as it began", v.of(1, 3), 29);
        // It opens within the second for those with a higher number.
        HeldDoor u = withOne(WORKER, 0);
        u.person(STRANGER, 0);
        u.person(STRANGER, 0);
        u.set(1, 1, 0);
        u.set(2, 1, 0);
        due.is("11 all in one second", u.seconds(1), 7);
        due.is("11 loose", u.now(5), 6);
    }

    /** It takes more than 512 calls to come there, but nothing else can show this finding. */
    private static void promise11SecondsAtTheEnd() {
        HeldDoor x = withOne(WORKER, 999);
        for (int i = 0; i < 4999; i++) {
            x.seconds(200);
        }
        due.is("11 second", x.now(0), 999800);
        due.is("11 above", x.seconds(200), Due.STATE);
        due.is("11 beyond before state", x.seconds(201), BEYOND);
        due.is("11 stays", x.now(0), 999800);
        due.is("11 just the last", x.seconds(199), 1);
        due.is("11 above", x.seconds(1), Due.STATE);
        due.is("11 second", x.now(0), 999999);
        due.is("11 on goes on", x.on(0, 400, 1), 1);
        due.is("11 counted", x.status(4), 2);
    }

    private static void promise12On() {
        HeldDoor x = withOne(GUARD, 0);
        x.person(STRANGER, 0);
        x.set(1, 1, 0);
        x.door(1, 20);
        due.is("12 feet on 0", x.on(1, 0, 0), 0);
        due.is("12 feet on 1", x.on(1, 1, 0), 99);
        due.is("12 feet on 2", x.on(1, 2, 0), 92);
        due.is("12 in on 0", x.on(0, 0, 1), 0);
        due.is("12 in on 1", x.on(0, 1, 1), 1);
        due.is("12 asked on 0", x.on(1, 0, 2), 0);
        due.is("12 asked on 16", x.on(1, 16, 2), 2);
        due.is("12 on 400", x.on(1, 400, 0), 0);
        due.is("12 nothing changes", x.now(0), 0);
        due.is("12 nothing changes", x.now(2), 20);
        due.is("12 nothing changes", x.now(3), -1);
        due.is("12 nothing changes", x.now(4), 0);
        due.is("12 nothing changes", x.of(1, 3), 0);
        int[] wrong = {-1, 0, 0, 2, 0, 0, 0, -1, 0, 0, 401, 0, 0, 0, -1, 0, 0, 3, HIGHEST, HIGHEST, HIGHEST, LOWEST, LOWEST, LOWEST};
        for (int i = 0; i < wrong.length; i += 3) {
            due.is("12 wrong", x.on(wrong[i], wrong[i + 1], wrong[i + 2]), BEYOND);
        }
    }

    private static void promise13Loose() {
        HeldDoor x = withOne(WORKER, 9);
        x.person(WORKER, 4);
        x.set(1, 1, 0);
        due.is("13 on 0", x.loose(0), 0);
        due.is("13 on 2", x.loose(2), 0);
        due.is("13 on 3", x.loose(3), 1);
        due.is("13 on 400", x.loose(400), 1);
        due.is("13 nothing changes", x.now(0), 0);
        due.is("13 nothing changes", x.of(0, 3), 9);
        x.set(1, 4, 1);
        due.is("13 now", x.loose(0), 1);
        int[] wrong = {-1, 401, LOWEST, HIGHEST};
        for (int n : wrong) {
            due.is("13 wrong", x.loose(n), BEYOND);
        }
    }

    private static void promise14Comes() {
        HeldDoor x = withOne(WORKER, 9);
        x.person(WORKER, 0);
        x.person(STRANGER, 300);
        x.set(1, 4, 1);
        x.set(2, 1, 0);
        due.is("14 third", x.comes(0), 3);
        due.is("14 is in", x.comes(1), 0);
        due.is("14 never", x.comes(2), NONE);
        due.is("14 never is a finding", x.status(3), 1);
        HeldDoor y = withOne(OLD, 999);
        due.is("14 999 by 3", y.comes(0), 333);
        y.set(0, 2, 5);
        due.is("14 999 by 2 is above 400", y.comes(0), NONE);
        y.set(0, 3, 800);
        due.is("14 just 400", y.comes(0), 400);
        y.set(0, 3, 801);
        due.is("14 just above", y.comes(0), NONE);
        due.is("14 nothing changes", y.of(0, 3), 801);
        int[] wrong = {-1, 1, LOWEST, HIGHEST};
        for (int p : wrong) {
            due.is("14 wrong", y.comes(p), BEYOND);
        }
    }

    private static void promise15Shuts() {
        HeldDoor x = new HeldDoor();
        due.is("15 shut", x.shuts(), 0);
        x.door(1, 60);
        due.is("15 nobody", x.shuts(), 60);
        x.person(STRANGER, 350);
        x.person(OLD, 999);
        // 350 at 7 is 50 seconds: 11 are left then, which is more than 9.
        due.is("15 held not longer", x.shuts(), 60);
        x.set(0, 3, 399);
        // 399 at 7 is 57 seconds: 4 are left, so it becomes 9, less 1 in that second.
        due.is("15 held longer", x.shuts(), 65);
        due.is("15 nothing changes", x.now(2), 60);
        due.is("15 no finding", x.status(-1), 0);
    }

    private static void promise16All() {
        HeldDoor x = new HeldDoor();
        due.is("16 nobody", x.all(), 0);
        x.person(WORKER, 9);
        x.person(OLD, 19);
        due.is("16 both", x.all(), 7);
        x.set(0, 4, 1);
        x.set(1, 4, 1);
        due.is("16 are in", x.all(), 0);
        x.set(1, 4, 0);
        x.set(1, 1, 0);
        due.is("16 never", x.all(), NONE);
        x.set(1, 1, 1);
        x.set(1, 2, 9);
        x.set(1, 3, 800);
        due.is("16 just 400", x.all(), 400);
        x.set(1, 3, 801);
        due.is("16 just above", x.all(), NONE);
        due.is("16 nothing changes", x.of(1, 3), 801);
        due.is("16 findings", x.status(3), 2);
    }

    private static void promise17Care() {
        // A worker that holds for one without a load asks from 50 on.
        HeldDoor x = withOne(WORKER, 0);
        x.person(STRANGER, 4);
        x.set(1, 1, 0);
        due.is("17 worker", x.care(1), 50);
        x.turn(0, OLD);
        due.is("17 old", x.care(1), 90);
        x.turn(0, GUARD);
        due.is("17 guard holds not", x.care(1), 0);
        x.door(1, 2);
        due.is("17 guard asks", x.care(1), 10);
        x.turn(0, WORKER);
        x.set(1, 2, 1);
        due.is("17 never asks the laden", x.care(1), NONE);
        due.is("17 care stays", x.now(1), 20);
        x.set(1, 4, 1);
        due.is("17 loose already", x.care(100), 0);
        int[] wrong = {0, -1, 101, LOWEST, HIGHEST};
        for (int n : wrong) {
            due.is("17 wrong", x.care(n), BEYOND);
        }
        due.is("17 nothing changes", x.now(0), 0);
    }

    private static void promise18Kind() {
        // Before one without a badge: the worker and the old one hold it, the new one doesn't.
        HeldDoor x = withOne(WORKER, 0);
        x.person(STRANGER, 4);
        x.set(1, 1, 0);
        due.is("18 new", x.kind(0, 1), NEW);
        due.is("18 new", x.kind(0, 100), NEW);
        x.set(1, 2, 3);
        x.door(0, 0);
        due.is("18 tester", x.kind(0, 1), TESTER);
        x.door(0, 10);
        due.is("18 of several the least", x.kind(0, 1), TESTER);
        x.door(1, 2);
        due.is("18 guard asks", x.kind(0, 1), GUARD);
        x.set(1, 1, 1);
        due.is("18 all alike", x.kind(0, 50), WORKER);
        due.is("18 kind stays", x.of(0, 0), WORKER);
        int[] wrong = {-1, 1, 2, 1, 0, 0, 0, 101, LOWEST, LOWEST, HIGHEST, HIGHEST};
        for (int i = 0; i < wrong.length; i += 2) {
            due.is("18 wrong", x.kind(wrong[i], wrong[i + 1]), BEYOND);
        }
    }

    private static void promise19Far() {
        HeldDoor x = withOne(WORKER, 500);
        due.is("19 one second", x.far(0, 1), 4);
        due.is("19 ten", x.far(0, 10), 40);
        due.is("19 fifty", x.far(0, 49), 196);
        due.is("19 199 at most", x.far(0, 100), 199);
        x.set(0, 1, 0);
        due.is("19 bare", x.far(0, 100), NONE);
        x.door(1, 1);
        due.is("19 bare, while it is open", x.far(0, 100), 4);
        x.set(0, 4, 1);
        due.is("19 is in", x.far(0, 1), 199);
        due.is("19 feet stay", x.of(0, 3), 500);
        int[] wrong = {-1, 1, 1, 1, 0, 0, 0, 101, LOWEST, LOWEST, HIGHEST, HIGHEST};
        for (int i = 0; i < wrong.length; i += 2) {
            due.is("19 wrong", x.far(wrong[i], wrong[i + 1]), BEYOND);
        }
        // 11 feet after the first second is as far as it is held for.
        HeldDoor y = withOne(WORKER, 0);
        y.person(STRANGER, 0);
        y.set(1, 1, 0);
        due.is("19 behind a worker", y.far(1, 100), 15);
    }

    private static void promise20Order() {
        // 1 gets in behind 0; with 2, far off, before it, it doesn't.
        HeldDoor x = withOne(WORKER, 0);
        x.person(STRANGER, 4);
        x.person(NEW, 300);
        x.set(1, 1, 0);
        due.is("20 as it is", x.loose(1), 1);
        // Both 0 with 2 and 1 with 2 help: the least is told.
        due.is("20 best", x.order(1), 2);
        x.set(2, 3, 4);
        due.is("20 none is better", x.loose(1), 1);
        due.is("20 none is better", x.order(1), NONE);
        due.is("20 feet stay", x.of(0, 3), 0);
        due.is("20 feet stay", x.of(1, 3), 4);
        HeldDoor y = withOne(WORKER, 300);
        y.person(WORKER, 0);
        y.person(STRANGER, 4);
        y.set(2, 1, 0);
        due.is("20 0 with 1 only changes who holds it", y.order(1), 2);
        HeldDoor z = withOne(WORKER, 0);
        z.person(WORKER, 0);
        z.person(STRANGER, 4);
        z.person(NEW, 300);
        z.set(2, 1, 0);
        due.is("20 2 with 3", z.order(1), 23);
        due.is("20 alone", withOne(WORKER, 4).order(1), NONE);
        due.is("20 nobody", new HeldDoor().order(100), NONE);
        int[] wrong = {0, -1, 101, LOWEST, HIGHEST};
        for (int n : wrong) {
            due.is("20 wrong", x.order(n), BEYOND);
        }
    }

    private static void promise21Take() {
        HeldDoor x = withOne(NEW, 8);
        x.person(WORKER, 0);
        x.person(STRANGER, 4);
        x.set(2, 1, 0);
        // Without 1's badge, 1 stays out, and 2 that it would hold for.
        due.is("21 the one that holds", x.take(1), 1);
        x.set(1, 1, 0);
        due.is("21 the only one", x.take(1), 0);
        x.set(0, 1, 0);
        due.is("21 nobody has one", x.take(1), NONE);
        due.is("21 nobody there", new HeldDoor().take(1), NONE);
        HeldDoor y = withOne(WORKER, 4);
        y.person(WORKER, 400);
        y.set(0, 4, 1);
        due.is("21 of several the least", y.take(1), 0);
        due.is("21 badge stays", y.of(0, 1), 1);
        y.set(1, 3, 4);
        due.is("21 one outside", y.take(1), 1);
        int[] wrong = {0, -1, 101, LOWEST, HIGHEST};
        for (int n : wrong) {
            due.is("21 wrong", x.take(n), BEYOND);
        }
    }

    private static void promise22Load() {
        // A new one holds for the laden only.
        HeldDoor x = withOne(NEW, 0);
        x.person(STRANGER, 4);
        x.set(1, 1, 0);
        x.door(0, 0);
        due.is("22 one at least", x.load(1, 1), 1);
        x.turn(0, WORKER);
        due.is("22 none needed", x.load(1, 1), 0);
        x.turn(0, TESTER);
        due.is("22 none helps", x.load(1, 100), NONE);
        // Held 3 seconds and its load for one at 11 feet, who is there at the fifth second.
        HeldDoor y = withOne(OLD, 0);
        y.person(OLD, 14);
        y.set(1, 1, 0);
        due.is("22 held long enough", y.load(1, 5), 2);
        due.is("22 held long enough", y.load(1, 100), 2);
        due.is("22 not there yet", y.load(1, 4), NONE);
        // Held for its load alone, from the eighth second behind the first on.
        HeldDoor z = withOne(OLD, 0);
        z.person(WORKER, 27);
        z.set(1, 1, 0);
        due.is("22 nine", z.load(1, 100), 9);
        z.set(1, 3, 28);
        due.is("22 not even nine", z.load(1, 100), NONE);
        due.is("22 load stays", y.of(1, 2), 0);
        x.set(1, 4, 1);
        due.is("22 is in", x.load(1, 1), 0);
        int[] wrong = {-1, 1, 2, 1, 0, 0, 0, 101, LOWEST, LOWEST, HIGHEST, HIGHEST};
        for (int i = 0; i < wrong.length; i += 2) {
            due.is("22 wrong", x.load(wrong[i], wrong[i + 1]), BEYOND);
        }
    }

    private static void promise23Feed() {
        HeldDoor x = new HeldDoor();
        due.is("23 two", x.feed(0x7a7a6e65, 2), 2);
        due.is("23 four", x.feed(0x77203920, 4), 6);
        // The tape is "new 9 ": the lowest bytes, the highest of these first.
        due.is("23 in their order", x.morning(), 1);
        due.is("23 kind", x.of(0, 0), NEW);
        due.is("23 feet", x.of(0, 3), 9);
        int[] wrong = {0, -1, 5, LOWEST, HIGHEST};
        for (int n : wrong) {
            due.is("23 wrong", x.feed(-1, n), BEYOND);
        }
        for (int i = 1; i <= 29; i++) {
            due.is("23 fills", x.feed(-1, 4), 4 * i);
        }
        due.is("23 fills", x.feed(-1, 3), 119);
        due.is("23 full", x.feed(-1, 2), FULL);
        due.is("23 beyond before full", x.feed(-1, 5), BEYOND);
        due.is("23 the last", x.feed(-1, 1), 120);
        due.is("23 full", x.feed(-1, 1), FULL);
        due.is("23 count", x.count(1), 120);
        due.is("23 full is counted", x.status(1), 2);
    }

    private static void promise24Wipe() {
        HeldDoor x = new HeldDoor();
        due.is("24 empty", x.wipe(), 0);
        Due.feed(x, "worker 5");
        due.is("24 had", x.wipe(), 8);
        due.is("24 empty", x.count(1), 0);
        due.is("24 empty", x.wipe(), 0);
        due.is("24 nothing told", x.morning(), -1);
    }

    private static void promise25MorningTold() {
        HeldDoor x = new HeldDoor();
        due.is("25 items", Due.morning(x, " worker 0;new12 ; old 999 load 9;stranger007load3bare;tester 5 bare "), 5);
        due.is("25 tape", x.count(1), 0);
        int[][] people = {{0, 1, 0, 0}, {1, 1, 0, 12}, {2, 1, 9, 999}, {3, 0, 3, 7}, {4, 0, 0, 5}};
        for (int p = 0; p < people.length; p++) {
            for (int what = 0; what < 4; what++) {
                due.is("25 one " + p + " what " + what, x.of(p, what), people[p][what]);
            }
            due.is("25 not in", x.of(p, 4), 0);
        }
        due.is("25 care, open, guard", Due.morning(x, "care 99;open 60;guard 1;care 3;open 0;open 59"), 6);
        due.is("25 care", x.now(1), 3);
        due.is("25 open", x.now(2), 59);
        due.is("25 guard", x.of(5, 0), GUARD);
        due.is("25 people", x.count(0), 6);
        due.is("25 long number", Due.morning(x, "worker 00000000000000000000000000000000000999"), 1);
        due.is("25 feet", x.of(6, 3), 999);
        due.is("25 second", x.now(0), 0);
        due.is("25 no findings", x.status(-1), 0);
        // As many items as the tape can hold.
        HeldDoor y = new HeldDoor();
        due.is("25 twenty", Due.morning(y, "care1;care2;care3;care4;care5;care6;care7;care8;care9;care1;"
            + "care1;care2;care3;care4;care5;care6;care7;care8;care9;care77"), 20);
        due.is("25 care", y.now(1), 77);
    }

    private static void promise25MorningFaults() {
        fault("", 0);
        fault("   ", 3);
        fault("worker", 6);
        fault("worker ", 7);
        fault("worker 5;", 9);
        fault("worker 5 ; ", 11);
        fault("worker 5 load", 13);
        fault("care", 4);
        fault("open ", 5);
        fault(";", 0);
        fault("5", 0);
        fault("workers 5", 0);
        fault(" work 5", 1);
        fault("worker bare", 7);
        fault("worker worker", 7);
        fault("worker ;", 7);
        fault("worker 1000", 7);
        fault("worker 99999999999999999999", 7);
        fault("worker 4294967297", 7);
        fault("worker 5 load 10", 14);
        fault("worker 5 load bare", 14);
        fault("worker 5 load ;", 14);
        fault("worker 5 load 3 load 4", 16);
        fault("worker 5 bare load 3", 14);
        fault("worker 5 bare bare", 14);
        fault("worker 5 barebare", 9);
        fault("worker 5 6", 9);
        fault("worker 5 worker 6", 9);
        fault("worker 5 care 6", 9);
        fault("worker 5;;worker 5", 9);
        fault("care 100", 5);
        fault("care care", 5);
        fault("care 5 load 3", 7);
        fault("care 5 bare", 7);
        fault("open 61", 5);
        fault("open 6 5", 7);
        fault("open ;", 5);
        fault("load 5", 0);
        fault("bare", 0);
        fault("Worker 5", 0);
        fault("worker -5", 7);
        fault("workerz 5", 0);
        fault("aworker 5", 0);
        fault("worker 5 barez", 9);
        fault("worker 5 bare{", 13);
        fault("worker 5 bare`", 13);
        fault("worker 5/", 8);
        fault("worker 5:", 8);
        fault("worker 5<", 8);
        fault("worker\t5", 6);
        fault("worker 5 #", 9);
        fault("worker 5,new 5", 8);
        fault("worker 5; \u00e9", 10);
        fault("worker 5;care 30;open 9;guard 7 load 2 bare;x", 44);
    }

    private static void fault(String text, int place) {
        HeldDoor x = withOne(OLD, 33);
        x.door(1, 4);
        due.is("25 fault of '" + text + "'", Due.morning(x, text), -1 - place);
        due.is("25 nothing came of '" + text + "'", x.count(0), 1);
        due.is("25 feet", x.of(0, 3), 33);
        due.is("25 badge", x.of(0, 1), 1);
        due.is("25 care", x.now(1), 20);
        due.is("25 open", x.now(2), 4);
        due.is("25 tape", x.count(1), 0);
        due.is("25 no finding", x.status(-1), 0);
        due.is("25 next one", x.person(WORKER, 1), 1);
        due.is("25 next badge", x.of(1, 1), 1);
        due.is("25 next load", x.of(1, 2), 0);
    }

    private static void promise25MorningNinth() {
        HeldDoor x = new HeldDoor();
        due.is("25 ninth", Due.morning(x, "old 1;old 1;old 1;old 1;old 1;old 1;old 1;old 1; old x"), -50);
        due.is("25 none came", x.count(0), 0);
        due.is("25 eight", Due.morning(x, "old 1;old 1;old 1;old 1;old 1;old 1;old 1;old 1; care 4"), 9);
        due.is("25 eight came", x.count(0), 8);
        due.is("25 another", Due.morning(x, "care 5;new 1"), -8);
        due.is("25 care stays", x.now(1), 4);
        due.is("25 care alone", Due.morning(x, "care 5"), 1);
        due.is("25 care", x.now(1), 5);
    }

    private static void promise26Sheet() {
        HeldDoor x = new HeldDoor();
        int[] widths = {8, 16, 64};
        for (int bits : widths) {
            due.is("26 n", x.sheet(3, bits, 40), 40);
            for (int i = 0; i < 40; i++) {
                due.is("26 all 0", x.write(3, i, i + 1), 0);
            }
            due.is("26 again", x.sheet(3, bits, 40), 40);
            for (int i = 0; i < 40; i++) {
                due.is("26 all 0 again", x.write(3, i, i + 1), 0);
            }
            due.is("26 of none", x.sheet(3, bits, 0), 0);
            due.is("26 not missing", x.lays(3), 0);
        }
        due.is("26 missing", x.sheet(3, 0, 7), 0);
        due.is("26 missing", x.lays(3), MISSING);
        x.sheet(0, 8, 2);
        int[] wrong = {-1, 8, 1, 4, 8, 1, 0, 7, 1, 0, 32, 1, 0, -8, 1, LOWEST, 8, 1, HIGHEST, 8, 1, 0, HIGHEST, 1, 0, 8, 41, 0, 0, 41, 0, 8, HIGHEST};
        for (int i = 0; i < wrong.length; i += 3) {
            due.is("26 wrong", x.sheet(wrong[i], wrong[i + 1], wrong[i + 2]), BEYOND);
        }
        due.is("26 size", x.sheet(0, 16, -1), SIZE);
        due.is("26 size of a missing one", x.sheet(0, 0, -1), SIZE);
        due.is("26 size", x.sheet(0, 64, LOWEST), SIZE);
        due.is("26 beyond before size", x.sheet(0, 9, -1), BEYOND);
        due.is("26 beyond before size", x.sheet(4, 8, -1), BEYOND);
        due.is("26 stays", x.write(0, 1, 0), 0);
        due.is("26 stays", x.write(0, 2, 0), BEYOND);
    }

    private static void promise27Write() {
        HeldDoor x = new HeldDoor();
        due.is("27 no such sheet", x.write(4, 0, 0), BEYOND);
        due.is("27 no such sheet", x.write(-1, 0, 0), BEYOND);
        due.is("27 missing", x.write(0, 0, 0), MISSING);
        due.is("27 missing before beyond", x.write(0, 99, 0), MISSING);
        x.sheet(0, 8, 2);
        x.sheet(1, 16, 2);
        x.sheet(2, 64, 2);
        long v = 0x123456789abcdef0L;
        long[] told = {(byte) v, (short) v, v};
        for (int s = 0; s < 3; s++) {
            due.is("27 was", x.write(s, 1, 7), 0);
            due.is("27 was", x.write(s, 1, v), 7);
            due.is("27 lowest bits", x.write(s, 1, -1), told[s]);
            due.is("27 -1", x.write(s, 1, Long.MIN_VALUE), -1);
            due.is("27 least", x.write(s, 1, Long.MAX_VALUE), s == 2 ? Long.MIN_VALUE : 0);
            due.is("27 greatest", x.write(s, 1, 0), s == 2 ? Long.MAX_VALUE : -1);
            due.is("27 the other one", x.write(s, 0, 0), 0);
            due.is("27 no such number", x.write(s, 2, 0), BEYOND);
            due.is("27 no such number", x.write(s, -1, 0), BEYOND);
            due.is("27 no such number", x.write(s, LOWEST, 0), BEYOND);
            due.is("27 no such number", x.write(s, HIGHEST, 0), BEYOND);
        }
        x.write(0, 0, 128);
        due.is("27 128 in 8 bits", x.write(0, 0, 127), -128);
        due.is("27 127 in 8 bits", x.write(0, 0, 0), 127);
        x.write(1, 0, 32768);
        due.is("27 32768 in 16 bits", x.write(1, 0, 0), -32768);
    }

    private static void promise28Copy() {
        HeldDoor x = new HeldDoor();
        due.is("28 no such sheet", x.copy(4, 0, 0, 0, 0), BEYOND);
        due.is("28 no such sheet", x.copy(0, 0, -1, 0, 0), BEYOND);
        x.sheet(0, 16, 6);
        due.is("28 missing target", x.copy(0, 0, 1, 0, 0), MISSING);
        due.is("28 missing source", x.copy(1, 0, 0, 0, 0), MISSING);
        x.sheet(1, 8, 6);
        due.is("28 other bits", x.copy(0, 0, 1, 0, 0), KIND);
        due.is("28 other bits before beyond", x.copy(0, -1, 1, 0, 99), KIND);
        x.sheet(1, 16, 4);
        for (int i = 0; i < 6; i++) {
            x.write(0, i, i + 1);
        }
        due.is("28 to another", x.copy(0, 2, 1, 0, 4), 4);
        due.is("28 none", x.copy(0, 6, 1, 4, 0), 0);
        numbersAre(x, 1, 3, 4, 5, 6);
        due.is("28 up in itself", x.copy(0, 0, 0, 2, 4), 4);
        numbersAre(x, 0, 1, 2, 1, 2, 3, 4);
        due.is("28 down in itself", x.copy(0, 1, 0, 0, 5), 5);
        numbersAre(x, 0, 2, 1, 2, 3, 4, 4);
        int[] wrong = {-1, 0, 1, 0, -1, 1, 0, 0, -1, 3, 0, 4, 0, 2, 3, 7, 0, 0, 0, 5, 0, 0, 0, 5,
            HIGHEST, 0, HIGHEST, 0, HIGHEST, 1, 1, 0, HIGHEST, LOWEST, 0, 1, 0, LOWEST, 1, 0, 0, LOWEST};
        for (int i = 0; i < wrong.length; i += 3) {
            due.is("28 wrong", x.copy(0, wrong[i], 1, wrong[i + 1], wrong[i + 2]), BEYOND);
        }
        numbersAre(x, 1, 3, 4, 5, 6);
    }

    /** Looks at the numbers of a sheet, and leaves them as they were. */
    private static void numbersAre(HeldDoor x, int s, long... numbers) {
        for (int i = 0; i < numbers.length; i++) {
            long is = x.write(s, i, 0);
            due.is("number " + i + " of sheet " + s, is, numbers[i]);
            x.write(s, i, is);
        }
    }

    private static void promise29Lays() {
        HeldDoor x = withOne(WORKER, 50);
        for (int p = 1; p < 5; p++) {
            x.person(WORKER, 50 + p);
        }
        due.is("29 no such sheet", x.lays(4), BEYOND);
        due.is("29 no such sheet", x.lays(-1), BEYOND);
        due.is("29 missing", x.lays(2), MISSING);
        x.sheet(2, 64, 7);
        long[] numbers = {0, 1000, 999, -1, 1L << 32, 7, 7};
        for (int i = 0; i < numbers.length; i++) {
            x.write(2, i, numbers[i]);
        }
        due.is("29 came", x.lays(2), 2);
        int[] feet = {0, 51, 999, 53, 54};
        for (int p = 0; p < 5; p++) {
            due.is("29 feet", x.of(p, 3), feet[p]);
        }
        x.sheet(2, 16, 2);
        x.write(2, 1, 12);
        due.is("29 fewer numbers than people", x.lays(2), 2);
        due.is("29 feet", x.of(1, 3), 12);
        due.is("29 feet", x.of(2, 3), 999);
        x.sheet(2, 8, 1);
        x.write(2, 0, 200);
        due.is("29 200 in 8 bits is below 0", x.lays(2), 0);
        due.is("29 people", x.count(0), 5);
    }

    private static void promise30Book() {
        HeldDoor x = withOne(GUARD, 0);
        x.person(STRANGER, 0);
        x.set(1, 1, 0);
        x.door(1, 20);
        due.is("30 no such sheet", x.book(4, 0), BEYOND);
        due.is("30 missing before person", x.book(0, 9), MISSING);
        x.sheet(0, 16, 5);
        due.is("30 no such one", x.book(0, 2), BEYOND);
        due.is("30 no such one", x.book(0, -1), BEYOND);
        due.is("30 no such one", x.book(0, LOWEST), BEYOND);
        due.is("30 book", x.book(0, 1), 5);
        numbersAre(x, 0, 0, 99, 92, 85, 78);
        due.is("30 nothing changes", x.now(0), 0);
        due.is("30 nothing changes", x.of(1, 3), 0);
        x.sheet(0, 8, 3);
        x.set(1, 3, 300);
        due.is("30 in 8 bits", x.book(0, 1), 3);
        numbersAre(x, 0, 44, 37, 30);
        x.sheet(0, 64, 0);
        due.is("30 of none", x.book(0, 1), 0);
    }

    private static void promise31Read() {
        HeldDoor x = withOne(WORKER, 90);
        due.is("31 no such sheet", x.read(4, 0), BEYOND);
        due.is("31 missing before person", x.read(0, 9), MISSING);
        x.sheet(0, 16, 3);
        due.is("31 no such one", x.read(0, 1), BEYOND);
        due.is("31 no such one", x.read(0, -1), BEYOND);
        x.book(0, 0);
        // 4 feet a second, shut: worker, new and stranger, with loads 0 to 4.
        due.is("31 four feet", x.read(0, 0), 15);
        x.turn(0, OLD);
        due.is("31 whatever it is now", x.read(0, 0), 15);
        x.book(0, 0);
        // 3 feet a second: worker, new, stranger from 5 on; old, tester, guard below.
        due.is("31 three feet", x.read(0, 0), 30);
        x.door(1, 30);
        x.set(0, 2, 9);
        x.book(0, 0);
        // 2 feet a second, open: old and guard from 5 on.
        due.is("31 two feet", x.read(0, 0), 10);
        x.turn(0, STRANGER);
        x.set(0, 2, 0);
        x.book(0, 0);
        due.is("31 seven feet", x.read(0, 0), 1);
        x.turn(0, TESTER);
        x.book(0, 0);
        // 6 feet a second: a tester without, a stranger with a load of 1 to 4.
        due.is("31 six feet", x.read(0, 0), 5);
        x.write(0, 0, 91);
        due.is("31 not as it began", x.read(0, 0), 0);
        due.is("31 kind stays", x.of(0, 0), TESTER);
        due.is("31 load stays", x.of(0, 2), 0);
        due.is("31 second stays", x.now(0), 0);
        x.sheet(0, 8, 1);
        x.set(0, 3, 300);
        x.book(0, 0);
        due.is("31 cut numbers are not its feet", x.read(0, 0), 0);
        x.sheet(0, 64, 0);
        due.is("31 of none", x.read(0, 0), 60);
    }

    private static HeldDoor scene() {
        HeldDoor x = withOne(GUARD, 0);
        x.person(STRANGER, 40);
        x.set(1, 1, 0);
        x.set(1, 2, 3);
        x.set(1, 5, 4);
        x.door(0, 77);
        x.door(1, 9);
        x.seconds(2);
        return x;
    }

    private static void sceneIs(HeldDoor x) {
        int[] now = {2, 77, 7, 0, 1, 0, 4};
        for (int what = 0; what < now.length; what++) {
            due.is("33 now " + what, x.now(what), now[what]);
        }
        int[][] people = {{GUARD, 1, 0, 0, 1, 0}, {STRANGER, 0, 3, 28, 0, 4}};
        for (int p = 0; p < 2; p++) {
            for (int what = 0; what < 6; what++) {
                due.is("33 of " + p + " " + what, x.of(p, what), people[p][what]);
            }
        }
        due.is("33 people", x.count(0), 2);
    }

    private static void spoil(HeldDoor x) {
        x.person(OLD, 3);
        for (int p = 0; p < 2; p++) {
            x.turn(p, TESTER);
            x.set(p, 1, p);
            x.set(p, 2, 9);
            x.set(p, 5, 50);
            x.set(p, 4, p);
            x.set(p, 3, 300);
        }
        x.door(0, 5);
        x.door(1, 50);
        x.seconds(3);
    }

    private static void promise32Image() {
        HeldDoor x = scene();
        due.is("32 image", x.image(), 1);
        sceneIs(x);
        spoil(x);
        due.is("32 undo", x.undo(), 2);
        sceneIs(x);
        // The tape and the sheets are not kept.
        HeldDoor y = scene();
        Due.feed(y, "new");
        y.sheet(0, 8, 3);
        y.write(0, 0, 5);
        y.image();
        Due.feed(y, " 4");
        y.write(0, 0, 6);
        y.sheet(1, 8, 1);
        y.undo();
        due.is("32 tape", y.count(1), 5);
        due.is("32 number", y.write(0, 0, 0), 6);
        due.is("32 sheet", y.write(1, 0, 0), 0);
        // The latest counts.
        y.image();
        y.person(WORKER, 0);
        due.is("32 latest", y.image(), 1);
        y.person(WORKER, 0);
        due.is("32 latest", y.undo(), 3);
    }

    private static void promise33Undo() {
        HeldDoor x = scene();
        due.is("33 nothing is kept", x.undo(), NONE);
        sceneIs(x);
        x.image();
        for (int i = 0; i < 3; i++) {
            spoil(x);
            due.is("33 stays kept", x.undo(), 2);
            sceneIs(x);
        }
        due.is("33 findings stay", x.status(3), 1);
    }

    private static void promise34Tear() {
        HeldDoor x = scene();
        due.is("34 nothing", x.tear(), 0);
        x.image();
        x.image();
        due.is("34 something", x.tear(), 1);
        due.is("34 nothing", x.tear(), 0);
        due.is("34 nothing is kept", x.undo(), NONE);
        sceneIs(x);
    }

    private static void promise35Count() {
        HeldDoor x = withOne(WORKER, 1);
        x.person(WORKER, 2);
        x.person(WORKER, 3);
        x.set(0, 2, 9);
        x.set(2, 2, 4);
        x.set(1, 1, 0);
        x.set(2, 1, 0);
        Due.feed(x, "abcde");
        due.is("35 people", x.count(0), 3);
        due.is("35 bytes", x.count(1), 5);
        due.is("35 without a badge", x.count(2), 2);
        due.is("35 loads", x.count(3), 13);
        int[] wrong = {-1, 4, LOWEST, HIGHEST};
        for (int what : wrong) {
            due.is("35 wrong", x.count(what), BEYOND);
        }
    }

    private static void promise36Status() {
        HeldDoor x = withOne(WORKER, 1);
        int[] each = {2, 1, 1, 3, 0, 2, 1};
        x.now(9);
        x.door(9, 9);
        for (int i = 0; i < 30; i++) {
            x.feed(0, 4);
        }
        x.feed(0, 1);
        x.as(0, GUARD);
        x.undo();
        x.order(1);
        x.undo();
        x.image();
        x.lays(0);
        x.book(0, 9);
        x.sheet(0, 8, -1);
        x.undo();
        x.morning();
        for (int which = 0; which < 7; which++) {
            due.is("36 status " + which, x.status(which), each[which]);
        }
        due.is("36 all", x.status(-1), 10);
        int[] wrong = {-2, 7, LOWEST, HIGHEST};
        for (int which : wrong) {
            due.is("36 wrong", x.status(which), BEYOND);
        }
        due.is("36 counted from then on", x.status(0), 6);
        due.is("36 all", x.status(-1), 14);
    }
}
