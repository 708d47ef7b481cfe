import java.util.Arrays;

/** What the tests of the edges share: the document's numbers, and how a call is held against its sentence. */
abstract class Edge {
    static final int BEYOND = Due.BEYOND;
    static final int FULL = Due.FULL;
    static final int KIND = Due.KIND;
    static final int NONE = Due.NONE;
    static final int STATE = Due.STATE;
    static final int MISSING = Due.MISSING;
    static final int SIZE = Due.SIZE;

    static final int WORKER = 0;
    static final int NEW = 1;
    static final int OLD = 2;
    static final int STRANGER = 3;
    static final int TESTER = 4;
    static final int GUARD = 5;

    static final int BADGE = 1;
    static final int LOAD = 2;
    static final int FEET = 3;
    static final int IN = 4;
    static final int ASKED = 5;
    static final int GOES = 6;

    static final int LOWEST = Integer.MIN_VALUE;
    static final int HIGHEST = Integer.MAX_VALUE;

    static final Due due = new Due("edges");

    interface Making {
        HeldDoor make();
    }

    interface Act {
        long on(HeldDoor x);
    }

    /**
     * An act answers a finding, counts it once, and changes nothing else: of two objects that were made alike,
     * the one that refused the act is to look as the other one does.
     */
    static void refused(String call, Making making, Act act, int finding) {
        HeldDoor x = making.make();
        HeldDoor alike = making.make();
        due.is(call, act.on(x), finding);
        for (int which = -1; which <= 6; which++) {
            int more = which == -1 || which == BEYOND - finding ? 1 : 0;
            due.is(call + " and status " + which, x.status(which), alike.status(which) + more);
        }
        alikeIs(call, x, alike);
    }

    /** An act answers, and changes nothing, not even status(). */
    static void onlyTells(String call, Making making, Act act, long answer) {
        comesTo(call, making, act, answer, x -> 0);
    }

    /** An act answers, and changes just what another act would change, and no status(). */
    static void comesTo(String call, Making making, Act act, long answer, Act other) {
        HeldDoor x = making.make();
        HeldDoor alike = making.make();
        due.is(call, act.on(x), answer);
        other.on(alike);
        for (int which = -1; which <= 6; which++) {
            due.is(call + " and status " + which, x.status(which), alike.status(which));
        }
        alikeIs(call, x, alike);
    }

    private static void alikeIs(String call, HeldDoor x, HeldDoor alike) {
        long[] seen = Sight.of(x);
        long[] asItWas = Sight.of(alike);
        due.isTrue(call + " leaves " + Arrays.toString(seen) + " of " + Arrays.toString(asItWas), Arrays.equals(seen, asItWas));
    }

    static HeldDoor withOne(int kind, int feet) {
        HeldDoor x = new HeldDoor();
        x.person(kind, feet);
        return x;
    }

    static HeldDoor withBare(HeldDoor x, int kind, int feet) {
        int p = x.person(kind, feet);
        x.set(p, BADGE, 0);
        return x;
    }

    /** Three people, of whom one is in and one has no badge; sheets of all widths, but the last; a tape; an image. */
    static HeldDoor office() {
        HeldDoor x = withOne(GUARD, 0);
        x.person(NEW, 60);
        x.door(0, 33);
        x.image();
        withBare(x, STRANGER, 80);
        x.set(2, LOAD, 3);
        x.set(2, ASKED, 4);
        x.door(0, 35);
        x.door(1, 9);
        x.seconds(2);
        x.sheet(0, 8, 3);
        x.sheet(1, 16, 40);
        x.sheet(2, 64, 5);
        x.write(0, 1, -7);
        x.write(1, 39, 700);
        x.write(2, 4, Long.MIN_VALUE);
        Due.feed(x, "care 7;open 9;new 5 bare");
        return x;
    }

    /** As many people as there may be, of all kinds, 10, 20, .. 80 feet off. */
    static HeldDoor crowd() {
        HeldDoor x = new HeldDoor();
        for (int p = 0; p < 8; p++) {
            x.person(p % 6, 10 * p + 10);
        }
        return x;
    }
}
