/** The edges that the document names of people: promises 4 to 10. */
public final class EdgePeopleTest extends Edge {
    public static void main(String[] args) {
        personKindLeastAndMost();
        personFeetLeastAndMost();
        personAtFirst();
        personEighthAndNinth();
        personBeyondBeforeFull();
        personRoomAgain();
        ofFirstAndLastWhat();
        ofOtherWhat();
        ofNoSuchPerson();
        ofGoesOfKinds();
        ofGoesWithLoadOfFive();
        ofGoesOfStrangerWithLoad();
        ofGoesAtLeastOne();
        setLeastAndMost();
        setOutside();
        setOtherWhat();
        setNoSuchPerson();
        turnKindLeastAndMost();
        turnOutside();
        asKindAbove();
        asFeetLeastAndMost();
        asBeyondBeforeKind();
        holdsTwelveFeet();
        holdsQuotientIsCut();
        holdsNewWithoutLoad();
        holdsOldAndLoad();
        holdsStrangerAndTester();
        holdsGuardWithoutBadge();
        holdsOneAndTheSame();
        asksByCare();
        asksWorkerTheLaden();
        asksNever();
        asksOneAndTheSame();
        due.end();
    }

    // Terms: "KINDS: 0 WORKER, .. 5 GUARD"
    private static void personKindLeastAndMost() {
        HeldDoor x = new HeldDoor();
        due.is("4 the first kind", x.person(0, 5), 0);
        due.is("4 the last kind", x.person(5, 5), 1);
        due.is("4 kind 0", x.of(0, 0), 0);
        due.is("4 kind 5", x.of(1, 0), 5);
        for (int kind : new int[] {-1, 6, LOWEST, HIGHEST}) {
            refused("4 kind " + kind, Edge::office, y -> y.person(kind, 5), BEYOND);
        }
    }

    // Terms: "FEET (how far off the door: 0 to 999)"
    private static void personFeetLeastAndMost() {
        HeldDoor x = new HeldDoor();
        due.is("4 the least feet", x.person(0, 0), 0);
        due.is("4 the most feet", x.person(0, 999), 1);
        due.is("4 feet 0", x.of(0, FEET), 0);
        due.is("4 feet 999", x.of(1, FEET), 999);
        for (int feet : new int[] {-1, 1000, LOWEST, HIGHEST}) {
            refused("4 feet " + feet, Edge::office, y -> y.person(0, feet), BEYOND);
        }
    }

    // Terms: "BADGE (1, at first ..)", "LOAD (.. 0 at first)", "IN (1) or not (0; at first)", "ASKED (.. 0 at first ..)"
    private static void personAtFirst() {
        HeldDoor x = office();
        int p = x.person(OLD, 0);
        due.is("4 the next number", p, 3);
        due.is("4 badge", x.of(p, BADGE), 1);
        due.is("4 load", x.of(p, LOAD), 0);
        due.is("4 not in, though at an open door", x.of(p, IN), 0);
        due.is("4 asked", x.of(p, ASKED), 0);
        due.is("4 no second went", x.now(0), 2);
    }

    // Terms: "(at most 8)"; promise 4: "FULL"
    private static void personEighthAndNinth() {
        HeldDoor x = new HeldDoor();
        for (int p = 0; p < 8; p++) {
            due.is("4 one of eight", x.person(p % 6, p), p);
        }
        due.is("4 eight", x.count(0), 8);
        refused("4 the ninth", Edge::crowd, y -> y.person(0, 0), FULL);
        refused("4 the ninth", Edge::crowd, y -> y.person(5, 999), FULL);
    }

    // Promise 4: "BEYOND: kind, feet. FULL", in this order
    private static void personBeyondBeforeFull() {
        refused("4 kind and full", Edge::crowd, x -> x.person(-1, 0), BEYOND);
        refused("4 kind and full", Edge::crowd, x -> x.person(6, 0), BEYOND);
        refused("4 feet and full", Edge::crowd, x -> x.person(0, -1), BEYOND);
        refused("4 feet and full", Edge::crowd, x -> x.person(0, 1000), BEYOND);
    }

    private static void personRoomAgain() {
        HeldDoor x = new HeldDoor();
        for (int p = 0; p < 7; p++) {
            x.person(WORKER, 9);
        }
        x.image();
        x.person(GUARD, 9);
        due.is("4 full", x.person(WORKER, 1), FULL);
        x.undo();
        due.is("4 room again", x.person(STRANGER, 1), 7);
        due.is("4 kind", x.of(7, 0), STRANGER);
        due.is("4 full again", x.person(WORKER, 1), FULL);
    }

    // Promise 5: "what 0 KIND, .. 6 GOES now"
    private static void ofFirstAndLastWhat() {
        // Two seconds of 6 feet each: a stranger with a load at an open door.
        int[] told = {STRANGER, 0, 3, 68, 0, 4, 6};
        for (int what = 0; what < told.length; what++) {
            int w = what;
            onlyTells("5 of 2, " + what, Edge::office, x -> x.of(2, w), told[what]);
        }
        due.is("5 the last of eight", crowd().of(7, FEET), 80);
    }

    // Promise 5: "BEYOND"
    private static void ofOtherWhat() {
        for (int what : new int[] {-1, 7, LOWEST, HIGHEST}) {
            refused("5 what " + what, Edge::office, x -> x.of(0, what), BEYOND);
        }
    }

    private static void ofNoSuchPerson() {
        for (int p : new int[] {-1, 3, 7, 8, LOWEST, HIGHEST}) {
            refused("5 feet of " + p, Edge::office, x -> x.of(p, FEET), BEYOND);
            refused("5 goes of " + p, Edge::office, x -> x.of(p, GOES), BEYOND);
        }
        refused("5 of the ninth", Edge::crowd, x -> x.of(8, 0), BEYOND);
    }

    // Terms: "GOES (feet in a second; the door is OPEN or not)"
    private static void ofGoesOfKinds() {
        int[] shut = {4, 4, 3, 4, 3, 3};
        int[] open = {4, 4, 3, 7, 6, 3};
        for (int k = 0; k < 6; k++) {
            HeldDoor x = withOne(k, 50);
            due.is("5 goes, shut, kind " + k, x.of(0, GOES), shut[k]);
            x.door(1, 1);
            due.is("5 goes, open, kind " + k, x.of(0, GOES), open[k]);
            x.door(1, 60);
            due.is("5 goes, open long, kind " + k, x.of(0, GOES), open[k]);
        }
    }

    // Terms: "(All that 1 less with a LOAD of 5 or more ..)"
    private static void ofGoesWithLoadOfFive() {
        int[] shut = {4, 4, 3, 4, 3, 3};
        int[] open = {4, 4, 3, 6, 5, 3};
        for (int k = 0; k < 6; k++) {
            for (int load : new int[] {4, 5, 9}) {
                HeldDoor x = withOne(k, 50);
                x.set(0, LOAD, load);
                int less = load >= 5 ? 1 : 0;
                due.is("5 goes, shut, kind " + k + " with " + load, x.of(0, GOES), shut[k] - less);
                x.door(1, 1);
                due.is("5 goes, open, kind " + k + " with " + load, x.of(0, GOES), open[k] - less);
            }
        }
    }

    // Terms: "and 3, if it is OPEN (and 2 instead, with a LOAD)", "TESTER: as STRANGER, less 1"
    private static void ofGoesOfStrangerWithLoad() {
        for (int k = STRANGER; k <= TESTER; k++) {
            int less = k == TESTER ? 1 : 0;
            HeldDoor x = withOne(k, 50);
            x.door(1, 1);
            due.is("5 open, without", x.of(0, GOES), 7 - less);
            x.set(0, LOAD, 1);
            due.is("5 open, with 1", x.of(0, GOES), 6 - less);
            x.door(1, 0);
            due.is("5 shut, with 1", x.of(0, GOES), 4 - less);
        }
    }

    // Terms: "1 at least": nobody comes to so little
    private static void ofGoesAtLeastOne() {
        for (int k = 0; k < 6; k++) {
            HeldDoor x = withOne(k, 50);
            x.set(0, LOAD, 9);
            due.isTrue("5 goes, kind " + k, x.of(0, GOES) >= 1);
        }
    }

    // Terms: BADGE 0 or 1, LOAD 0 to 9, FEET 0 to 999, IN 0 or 1, ASKED 0 to 999
    private static void setLeastAndMost() {
        int[] was = {-1, 0, 3, 68, 0, 4};
        int[] most = {-1, 1, 9, 999, 1, 999};
        for (int what = 1; what <= 5; what++) {
            HeldDoor x = office();
            due.is("6 to 0, what " + what, x.set(2, what, 0), was[what]);
            due.is("6 is 0, what " + what, x.of(2, what), 0);
            due.is("6 to the most, what " + what, x.set(2, what, most[what]), 0);
            due.is("6 is the most, what " + what, x.of(2, what), most[what]);
            for (int other = 1; other <= 5; other++) {
                if (other != what) {
                    due.is("6 others stay, " + other, x.of(2, other), was[other]);
                }
            }
            due.is("6 the one before stays, what " + what, x.of(1, what), office().of(1, what));
        }
    }

    // Promise 6: "BEYOND"
    private static void setOutside() {
        int[] most = {-1, 1, 9, 999, 1, 999};
        for (int what = 1; what <= 5; what++) {
            int w = what;
            for (int v : new int[] {-1, most[what] + 1, LOWEST, HIGHEST}) {
                refused("6 what " + w + " to " + v, Edge::office, x -> x.set(2, w, v), BEYOND);
            }
        }
    }

    // Promise 6: what is 1 to 5: neither KIND nor GOES
    private static void setOtherWhat() {
        for (int what : new int[] {-1, 0, 6, 7, LOWEST, HIGHEST}) {
            refused("6 what " + what, Edge::office, x -> x.set(2, what, 1), BEYOND);
        }
    }

    private static void setNoSuchPerson() {
        for (int p : new int[] {-1, 3, 7, 8, LOWEST, HIGHEST}) {
            refused("6 of " + p, Edge::office, x -> x.set(p, FEET, 1), BEYOND);
        }
        refused("6 of the ninth", Edge::crowd, x -> x.set(8, FEET, 1), BEYOND);
        due.is("6 of the eighth", crowd().set(7, FEET, 1), 80);
    }

    // Promise 7: "One becomes one of another KIND: what it was"
    private static void turnKindLeastAndMost() {
        HeldDoor x = office();
        due.is("7 to the first", x.turn(2, 0), STRANGER);
        due.is("7 is", x.of(2, 0), 0);
        due.is("7 to the last", x.turn(2, 5), 0);
        due.is("7 is", x.of(2, 0), 5);
        due.is("7 to what it is", x.turn(2, 5), 5);
        int[] stays = {-1, 0, 3, 68, 0, 4};
        for (int what = 1; what <= 5; what++) {
            due.is("7 stays, what " + what, x.of(2, what), stays[what]);
        }
        due.is("7 the one before stays", x.of(1, 0), NEW);
        due.is("7 the eighth", crowd().turn(7, 0), NEW);
    }

    // Promise 7: "BEYOND"
    private static void turnOutside() {
        for (int kind : new int[] {-1, 6, LOWEST, HIGHEST}) {
            refused("7 to " + kind, Edge::office, x -> x.turn(2, kind), BEYOND);
        }
        for (int p : new int[] {-1, 3, 7, 8, LOWEST, HIGHEST}) {
            refused("7 of " + p, Edge::office, x -> x.turn(p, 0), BEYOND);
        }
        refused("7 of the ninth", Edge::crowd, x -> x.turn(8, 0), BEYOND);
    }

    // Promise 8: "KIND: it isn't of that kind, nor of one under it"
    private static void asKindAbove() {
        int[] above = {-1, WORKER, WORKER, WORKER, STRANGER, OLD};
        for (int k = 0; k < 6; k++) {
            int kind = k;
            for (int a = 0; a < 6; a++) {
                int as = a;
                boolean is = a == k || a == above[k] || above[k] > 0 && a == above[above[k]];
                if (is) {
                    onlyTells("8 kind " + k + " as " + a, () -> withOne(kind, 70), x -> x.as(0, as), 70);
                } else {
                    refused("8 kind " + k + " as " + a, () -> withOne(kind, 70), x -> x.as(0, as), KIND);
                }
            }
        }
    }

    private static void asFeetLeastAndMost() {
        due.is("8 feet 0", withOne(GUARD, 0).as(0, WORKER), 0);
        due.is("8 feet 999", withOne(GUARD, 999).as(0, WORKER), 999);
        due.is("8 the eighth", crowd().as(7, NEW), 80);
    }

    // Promise 8: "BEYOND: no such one, kind. KIND", in this order
    private static void asBeyondBeforeKind() {
        for (int kind : new int[] {-1, 6, LOWEST, HIGHEST}) {
            refused("8 as " + kind, Edge::office, x -> x.as(0, kind), BEYOND);
        }
        for (int p : new int[] {-1, 3, 7, 8, LOWEST, HIGHEST}) {
            refused("8 of " + p, Edge::office, x -> x.as(p, TESTER), BEYOND);
        }
        refused("8 of the ninth", Edge::crowd, x -> x.as(8, WORKER), BEYOND);
    }

    /** One of a kind, and another one: so many feet off, with such a load and badge. */
    private static HeldDoor two(int kind, int feet, int load, int badge) {
        HeldDoor x = withOne(kind, 500);
        x.person(WORKER, feet);
        x.set(1, LOAD, load);
        x.set(1, BADGE, badge);
        return x;
    }

    // Terms: "f by 4, and 1, but 0, if f is 12 or more"
    private static void holdsTwelveFeet() {
        due.is("9 for 11 feet", two(WORKER, 11, 0, 1).holds(0, 1), 3);
        due.is("9 for 12 feet", two(WORKER, 12, 0, 1).holds(0, 1), 0);
        due.is("9 for 999 feet", two(WORKER, 999, 0, 1).holds(0, 1), 0);
        due.is("9 for 0 feet", two(WORKER, 0, 0, 1).holds(0, 1), 1);
        due.is("9 a load does nothing", two(WORKER, 12, 9, 1).holds(0, 1), 0);
        due.is("9 no badge does nothing", two(WORKER, 11, 9, 0).holds(0, 1), 3);
    }

    // Terms: "Quotients are cut"
    private static void holdsQuotientIsCut() {
        int[] seconds = {1, 1, 1, 1, 2, 2, 2, 2, 3, 3, 3, 3, 0};
        for (int feet = 0; feet < seconds.length; feet++) {
            int f = feet;
            onlyTells("9 for " + feet + " feet", () -> two(WORKER, f, 0, 1), x -> x.holds(0, 1), seconds[feet]);
        }
    }

    // Terms: "NEW: as WORKER, but 0, if l is 0"
    private static void holdsNewWithoutLoad() {
        due.is("9 new, without", two(NEW, 11, 0, 1).holds(0, 1), 0);
        due.is("9 new, with 1", two(NEW, 11, 1, 1).holds(0, 1), 3);
        due.is("9 new, with 9", two(NEW, 11, 9, 1).holds(0, 1), 3);
        due.is("9 new, with 1 at 12 feet", two(NEW, 12, 1, 1).holds(0, 1), 0);
    }

    // Terms: "OLD: as WORKER, and l"
    private static void holdsOldAndLoad() {
        due.is("9 old, without", two(OLD, 11, 0, 1).holds(0, 1), 3);
        due.is("9 old, with 9", two(OLD, 11, 9, 1).holds(0, 1), 12);
        due.is("9 old, with 9 at 12 feet", two(OLD, 12, 9, 0).holds(0, 1), 9);
        due.is("9 old, without at 12 feet", two(OLD, 12, 0, 1).holds(0, 1), 0);
    }

    // Terms: "STRANGER: 9. TESTER: 0"
    private static void holdsStrangerAndTester() {
        for (int feet : new int[] {0, 11, 12, 999}) {
            for (int load : new int[] {0, 9}) {
                due.is("9 stranger", two(STRANGER, feet, load, load / 9).holds(0, 1), 9);
                due.is("9 tester", two(TESTER, feet, load, load / 9).holds(0, 1), 0);
            }
        }
    }

    // Terms: "GUARD: as OLD, but 0 for one without a BADGE"
    private static void holdsGuardWithoutBadge() {
        due.is("9 guard", two(GUARD, 11, 9, 1).holds(0, 1), 12);
        due.is("9 guard, for one without", two(GUARD, 11, 9, 0).holds(0, 1), 0);
        due.is("9 guard, at 12 feet", two(GUARD, 12, 9, 1).holds(0, 1), 9);
        HeldDoor x = two(GUARD, 11, 9, 1);
        x.set(0, BADGE, 0);
        due.is("9 a guard without a badge of its own", x.holds(0, 1), 12);
    }

    // Promise 9: "BEYOND: also one and the same"
    private static void holdsOneAndTheSame() {
        for (int p = 0; p < 3; p++) {
            int one = p;
            refused("9 " + p + " for itself", Edge::office, x -> x.holds(one, one), BEYOND);
        }
        for (int p : new int[] {-1, 3, 7, 8, LOWEST, HIGHEST}) {
            refused("9 " + p + " for 0", Edge::office, x -> x.holds(p, 0), BEYOND);
            refused("9 0 for " + p, Edge::office, x -> x.holds(0, p), BEYOND);
            refused("9 " + p + " for itself", Edge::office, x -> x.holds(p, p), BEYOND);
        }
        due.is("9 the last for the one before", crowd().holds(7, 6), 0);
        due.is("9 the first stranger for the last", crowd().holds(3, 7), 9);
    }

    /** Whether one of a kind asks another one with such a load at such a care. */
    private static int asks(int kind, int care, int load) {
        HeldDoor x = two(kind, 40, load, 0);
        x.door(0, care);
        return x.asks(0, 1);
    }

    // Terms: "if c is 50 or more", "20 or more", "90 or more", "10 or more"
    private static void asksByCare() {
        int[] kinds = {WORKER, NEW, OLD, GUARD};
        int[] least = {50, 20, 90, 10};
        for (int i = 0; i < kinds.length; i++) {
            due.is("10 kind " + kinds[i] + " just below", asks(kinds[i], least[i] - 1, 0), 0);
            due.is("10 kind " + kinds[i] + " just there", asks(kinds[i], least[i], 0), 1);
            due.is("10 kind " + kinds[i] + " at 0", asks(kinds[i], 0, 0), 0);
            due.is("10 kind " + kinds[i] + " at 99", asks(kinds[i], 99, 0), 1);
        }
        onlyTells("10 at first", Edge::office, x -> x.asks(1, 2), 1);
        onlyTells("10 with a badge", Edge::office, x -> x.asks(0, 1), 1);
        onlyTells("10 one that is in", Edge::office, x -> x.asks(1, 0), 1);
    }

    // Terms: "and that one has no LOAD": of WORKERs alone
    private static void asksWorkerTheLaden() {
        due.is("10 worker, with 1", asks(WORKER, 50, 1), 0);
        due.is("10 worker, with 9 at 99", asks(WORKER, 99, 9), 0);
        due.is("10 new, with 1", asks(NEW, 20, 1), 1);
        due.is("10 old, with 1", asks(OLD, 90, 1), 1);
        due.is("10 guard, with 1", asks(GUARD, 10, 1), 1);
        HeldDoor x = two(WORKER, 40, 0, 0);
        x.set(0, LOAD, 9);
        x.door(0, 50);
        due.is("10 a worker with a load of its own", x.asks(0, 1), 1);
    }

    // Terms: "STRANGER: never. TESTER: as STRANGER"
    private static void asksNever() {
        for (int care : new int[] {0, 50, 90, 99}) {
            due.is("10 stranger", asks(STRANGER, care, 0), 0);
            due.is("10 tester", asks(TESTER, care, 0), 0);
        }
    }

    // Promise 10: "BEYOND: also one and the same"
    private static void asksOneAndTheSame() {
        for (int p = 0; p < 3; p++) {
            int one = p;
            refused("10 " + p + " itself", Edge::office, x -> x.asks(one, one), BEYOND);
        }
        for (int p : new int[] {-1, 3, 7, 8, LOWEST, HIGHEST}) {
            refused("10 " + p + " asks 0", Edge::office, x -> x.asks(p, 0), BEYOND);
            refused("10 0 asks " + p, Edge::office, x -> x.asks(0, p), BEYOND);
            refused("10 " + p + " asks itself", Edge::office, x -> x.asks(p, p), BEYOND);
        }
        due.is("10 the last asks the one before", crowd().asks(7, 6), 1);
    }
}
