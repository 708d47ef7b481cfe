/** The edges that the document names of seconds: promises 11 to 16, and how a SECOND goes. */
public final class EdgeSecondsTest extends Edge {
    public static void main(String[] args) {
        secondsLeastAndMost();
        secondsOutside();
        secondsUpToTheLast();
        secondsBeyondBeforeState();
        secondsAsOneByOne();
        walkNotBelowZero();
        walkNotOneThatIsIn();
        walkByTheDoorAsTheSecondBegan();
        enterByNumbers();
        enterWithNoFeetLeft();
        enterAskedByNobody();
        enterAskedByItself();
        enterAskedHeldTo999();
        enterAskedWithoutBadge();
        enterAskedWithBadge();
        enterNotAskedWithoutBadge();
        enterShut();
        enterBecomesBy();
        heldForTheNearest();
        heldForTheLeastNumber();
        heldForTheFirstNumber();
        heldForOneSentAway();
        heldForNobody();
        heldAsItIsIfMore();
        heldForOneSecond();
        openOneLess();
        onLeastAndMost();
        onOutside();
        onWhat();
        onPastTheLastSecond();
        looseLeastAndMost();
        looseOutside();
        comesLeastAndMost();
        comesNever();
        comesOutside();
        shutsLeastAndMost();
        shutsHeldAgain();
        allLeastAndMost();
        allNever();
        due.end();
    }

    /** With a load of 9 one that is OLD goes 2 feet in a second: 400 seconds take 800. */
    private static HeldDoor slow(int feet) {
        HeldDoor x = withOne(OLD, feet);
        x.set(0, LOAD, 9);
        return x;
    }

    // Promise 11: "n SECONDS go (1 to 200): those that are IN then, as a set"
    private static void secondsLeastAndMost() {
        HeldDoor x = slow(800);
        due.is("11 one", x.seconds(1), 0);
        due.is("11 a second went", x.now(0), 1);
        due.is("11 two feet", x.of(0, FEET), 798);
        due.is("11 two hundred", x.seconds(200), 0);
        due.is("11 seconds went", x.now(0), 201);
        due.is("11 four hundred feet", x.of(0, FEET), 398);
        due.is("11 just not in", x.seconds(198), 0);
        due.is("11 in just then", x.seconds(1), 1);
        HeldDoor y = new HeldDoor();
        for (int p = 0; p < 8; p++) {
            y.person(WORKER, 800);
        }
        due.is("11 none of eight", y.seconds(199), 0);
        due.is("11 all of eight", y.seconds(1), 255);
        due.is("11 nobody there", new HeldDoor().seconds(200), 0);
    }

    // Promise 11: "BEYOND"
    private static void secondsOutside() {
        for (int n : new int[] {0, -1, 201, LOWEST, HIGHEST}) {
            refused("11 seconds " + n, Edge::office, x -> x.seconds(n), BEYOND);
        }
    }

    /** It takes more than 512 calls to come there; nothing else can show this finding. */
    private static HeldDoor late() {
        HeldDoor x = office();
        for (int i = 0; i < 4999; i++) {
            x.seconds(200);
        }
        return x;
    }

    // Terms: "SECOND .. (999999 at most)"; promise 11: "STATE: SECOND would be above 999999"
    private static void secondsUpToTheLast() {
        HeldDoor x = late();
        due.is("11 second", x.now(0), 999802);
        due.is("11 one too many", x.seconds(198), STATE);
        due.is("11 none went", x.now(0), 999802);
        due.is("11 counted", x.status(4), 1);
        due.is("11 up to the last", x.seconds(197), x.now(4));
        due.is("11 the last", x.now(0), 999999);
        refused("11 one more", EdgeSecondsTest::lastSecond, y -> y.seconds(1), STATE);
        refused("11 many more", EdgeSecondsTest::lastSecond, y -> y.seconds(200), STATE);
    }

    private static HeldDoor lastSecond() {
        HeldDoor x = late();
        x.seconds(197);
        return x;
    }

    // Promise 11: "BEYOND. STATE", in this order
    private static void secondsBeyondBeforeState() {
        refused("11 none at the last", EdgeSecondsTest::lastSecond, x -> x.seconds(0), BEYOND);
        refused("11 201 at the last", EdgeSecondsTest::lastSecond, x -> x.seconds(201), BEYOND);
        refused("11 as many as can be said", EdgeSecondsTest::lastSecond, x -> x.seconds(HIGHEST), BEYOND);
    }

    private static void secondsAsOneByOne() {
        for (int n : new int[] {2, 7, 30, 200}) {
            comesTo("11 " + n + " at once", Edge::office, x -> x.seconds(n), oneByOne(office(), n), x -> oneByOne(x, n));
        }
    }

    private static int oneByOne(HeldDoor x, int n) {
        for (int i = 1; i < n && i < 60; i++) {
            x.seconds(1);
        }
        return x.seconds(Math.max(1, n - 59));
    }

    // A SECOND (1): "FEET are what it GOES less (0 at least ..)"
    private static void walkNotBelowZero() {
        for (int feet = 0; feet <= 5; feet++) {
            HeldDoor x = withBare(new HeldDoor(), WORKER, feet);
            x.seconds(1);
            due.is("11 from " + feet + " feet", x.of(0, FEET), feet == 5 ? 1 : 0);
            x.seconds(1);
            due.is("11 again from " + feet + " feet", x.of(0, FEET), 0);
        }
        HeldDoor y = withOne(WORKER, 3);
        y.seconds(1);
        due.is("11 of one that came in", y.of(0, FEET), 0);
        due.is("11 from the farthest", withOne(WORKER, 999).on(0, 1, 0), 995);
    }

    // A SECOND (1): "PEOPLE .. that aren't IN"
    private static void walkNotOneThatIsIn() {
        HeldDoor x = withOne(WORKER, 40);
        x.person(WORKER, 40);
        x.set(0, IN, 1);
        x.seconds(1);
        due.is("11 one that is in stands", x.of(0, FEET), 40);
        due.is("11 the other goes", x.of(1, FEET), 36);
    }

    // A SECOND (1): "by whether it is OPEN as the SECOND began"
    private static void walkByTheDoorAsTheSecondBegan() {
        HeldDoor x = withOne(STRANGER, 4);
        x.person(STRANGER, 40);
        x.seconds(1);
        due.is("11 it opened in this second", x.of(1, FEET), 36);
        due.is("11 and is open", x.now(2), 8);
        x.seconds(1);
        due.is("11 it was open", x.of(1, FEET), 29);
        HeldDoor y = withOne(STRANGER, 40);
        y.door(1, 1);
        y.seconds(1);
        due.is("11 open for its last second", y.of(0, FEET), 33);
        due.is("11 and shut", y.now(2), 0);
        y.seconds(1);
        due.is("11 it was shut", y.of(0, FEET), 29);
    }

    // A SECOND (2): "PEOPLE by numbers"
    private static void enterByNumbers() {
        // 0 is tried before 1 opens the door, 2 behind it.
        HeldDoor x = withBare(new HeldDoor(), WORKER, 0);
        x.person(WORKER, 0);
        withBare(x, WORKER, 0);
        due.is("11 the one behind it only", x.seconds(1), 6);
        due.is("11 by the last", x.now(3), 2);
        // The first to come is the one that asks: 0, a guard, asks 1; 1, a worker, doesn't ask 2.
        HeldDoor y = withOne(GUARD, 0);
        y.person(WORKER, 0);
        withBare(y, WORKER, 0);
        due.is("11 all", y.seconds(1), 7);
        due.is("11 asked by the guard", y.of(1, ASKED), 1);
        due.is("11 not asked by the worker", y.of(2, ASKED), 0);
        HeldDoor z = new HeldDoor();
        for (int p = 0; p < 8; p++) {
            z.person(WORKER, 4);
        }
        due.is("11 all eight", z.seconds(1), 255);
        due.is("11 by the eighth", z.now(3), 7);
    }

    // A SECOND (2): "whose FEET are 0"
    private static void enterWithNoFeetLeft() {
        HeldDoor x = withOne(WORKER, 4);
        x.person(WORKER, 5);
        x.door(1, 9);
        due.is("11 4 feet, not 5", x.seconds(1), 1);
        due.is("11 a foot is left", x.of(1, FEET), 1);
        due.is("11 then", x.seconds(1), 3);
    }

    // A SECOND (2): "if somebody is BY and ASKS it"
    private static void enterAskedByNobody() {
        HeldDoor x = withBare(new HeldDoor(), STRANGER, 0);
        x.door(0, 99);
        x.door(1, 1);
        due.is("11 nobody is by", x.seconds(1), 1);
        due.is("11 not asked", x.of(0, ASKED), 0);
        HeldDoor y = withOne(GUARD, 500);
        y.set(0, IN, 1);
        withBare(y, STRANGER, 0);
        y.door(0, 99);
        y.door(1, 1);
        due.is("11 a guard that is in, but not by", y.seconds(1), 3);
        due.is("11 not asked", y.of(1, ASKED), 0);
    }

    private static void enterAskedByItself() {
        HeldDoor x = withOne(GUARD, 0);
        x.seconds(1);
        x.set(0, IN, 0);
        x.door(1, 5);
        due.is("11 in again", x.seconds(1), 1);
        due.is("11 asked by itself", x.of(0, ASKED), 1);
        x.set(0, IN, 0);
        x.set(0, BADGE, 0);
        due.is("11 not in again", x.seconds(1), 0);
        due.is("11 sent away by itself", x.of(0, FEET), 99);
    }

    /** A guard is in and by, and another one stands at the door, which is open. */
    private static HeldDoor guarded(int badge) {
        HeldDoor x = withOne(GUARD, 0);
        x.seconds(1);
        x.person(STRANGER, 0);
        x.set(1, BADGE, badge);
        x.door(1, 60);
        return x;
    }

    // A SECOND (2): "its ASKED is 1 more (999 at most)"
    private static void enterAskedHeldTo999() {
        int[] before = {0, 1, 997, 998, 999};
        int[] after = {1, 2, 998, 999, 999};
        for (int badge = 0; badge <= 1; badge++) {
            for (int i = 0; i < before.length; i++) {
                HeldDoor x = guarded(badge);
                x.set(1, ASKED, before[i]);
                due.is("11 asked " + before[i] + " on 1", x.on(1, 1, 2), after[i]);
                x.seconds(1);
                due.is("11 asked " + before[i], x.of(1, ASKED), after[i]);
            }
        }
    }

    // A SECOND (2): "so asked one without a BADGE is sent away: its FEET are 99"
    private static void enterAskedWithoutBadge() {
        HeldDoor x = guarded(0);
        due.is("11 not in", x.seconds(1), 1);
        due.is("11 sent away", x.of(1, FEET), 99);
        due.is("11 the guard is by yet", x.now(3), 0);
        due.is("11 not held for it", x.now(2), 59);
        x.door(1, 0);
        x.seconds(1);
        due.is("11 comes again", x.of(1, FEET), 95);
        due.is("11 asked at the door only", x.of(1, ASKED), 1);
    }

    // A SECOND (2): "else it is IN"
    private static void enterAskedWithBadge() {
        HeldDoor x = guarded(1);
        due.is("11 in", x.seconds(1), 3);
        due.is("11 asked", x.of(1, ASKED), 1);
        due.is("11 feet", x.of(1, FEET), 0);
        x.seconds(1);
        due.is("11 one that is in isn't asked again", x.of(1, ASKED), 1);
    }

    private static void enterNotAskedWithoutBadge() {
        HeldDoor x = guarded(0);
        x.door(0, 9);
        due.is("11 in", x.seconds(1), 3);
        due.is("11 not asked", x.of(1, ASKED), 0);
        due.is("11 loose", x.now(5), 2);
        HeldDoor y = guarded(0);
        y.door(0, 10);
        due.is("11 asked at 10", y.seconds(1), 1);
    }

    // A SECOND (2): "If the door is shut: one with a BADGE is IN; one without waits"
    private static void enterShut() {
        HeldDoor x = guarded(1);
        x.door(1, 0);
        due.is("11 by its badge", x.seconds(1), 3);
        due.is("11 not asked at a shut door", x.of(1, ASKED), 0);
        HeldDoor y = guarded(0);
        y.door(1, 0);
        due.is("11 waits", y.seconds(200), 1);
        due.is("11 at the door", y.of(1, FEET), 0);
        due.is("11 not asked", y.of(1, ASKED), 0);
        y.door(1, 1);
        y.door(0, 0);
        due.is("11 waited", y.seconds(1), 3);
    }

    // A SECOND (2): "One that came IN: BY is that one"
    private static void enterBecomesBy() {
        HeldDoor x = guarded(1);
        due.is("11 by the guard", x.now(3), 0);
        x.seconds(1);
        due.is("11 by the other", x.now(3), 1);
        x.seconds(1);
        due.is("11 by the other yet", x.now(3), 1);
    }

    // A SECOND (2): "what it HOLDS for the nearest one that isn't IN (least FEET ..)"
    private static void heldForTheNearest() {
        HeldDoor x = withOne(OLD, 0);
        x.person(WORKER, 13);
        x.person(WORKER, 12);
        x.person(WORKER, 13);
        for (int p = 1; p <= 3; p++) {
            x.set(p, LOAD, p);
        }
        x.seconds(1);
        due.is("11 for 2, at 8 feet: 3 and 2", x.now(2), 4);
        HeldDoor y = withOne(OLD, 0);
        y.person(WORKER, 4);
        y.person(WORKER, 15);
        y.set(1, IN, 1);
        y.set(1, LOAD, 9);
        y.seconds(1);
        due.is("11 not for one that is in, but for 11 feet: 3", y.now(2), 2);
        HeldDoor z = withOne(WORKER, 0);
        z.person(WORKER, 16);
        z.seconds(1);
        due.is("11 12 feet are too far", z.now(2), 0);
        HeldDoor w = withOne(OLD, 0);
        w.person(WORKER, 999);
        w.set(1, LOAD, 4);
        w.seconds(1);
        due.is("11 the nearest is as far as can be", w.now(2), 3);
    }

    // A SECOND (2): "of several the least number"
    private static void heldForTheLeastNumber() {
        HeldDoor x = withOne(OLD, 0);
        x.person(WORKER, 20);
        x.person(WORKER, 12);
        x.person(WORKER, 12);
        x.set(1, LOAD, 1);
        x.set(2, LOAD, 2);
        x.set(3, LOAD, 4);
        x.seconds(1);
        due.is("11 for 2: 3 and 2", x.now(2), 4);
    }

    private static void heldForTheFirstNumber() {
        HeldDoor x = withOne(WORKER, 12);
        x.set(0, LOAD, 2);
        x.person(OLD, 0);
        x.person(WORKER, 12);
        x.seconds(1);
        due.is("11 for 0, at 8 feet: 3 and 2", x.now(2), 4);
        // One that has been tried already in this second is not in, and may be the nearest.
        HeldDoor y = withBare(new HeldDoor(), WORKER, 0);
        y.set(0, LOAD, 3);
        y.person(OLD, 0);
        due.is("11 for 0, who waits: 1 and 3", y.seconds(1), 2);
        due.is("11 held", y.now(2), 3);
        due.is("11 in the next second", y.seconds(1), 3);
    }

    private static void heldForOneSentAway() {
        HeldDoor x = withOne(GUARD, 0);
        x.seconds(1);
        withBare(x, WORKER, 0);
        x.set(1, LOAD, 5);
        x.person(OLD, 0);
        x.door(1, 2);
        due.is("11 the one with a badge", x.seconds(1), 5);
        due.is("11 the other", x.of(1, FEET), 99);
        due.is("11 held for one at 99 feet: its load", x.now(2), 4);
    }

    // A SECOND (2): "0, if there is none"
    private static void heldForNobody() {
        HeldDoor x = withOne(STRANGER, 0);
        x.seconds(1);
        due.is("11 one alone", x.now(2), 0);
        HeldDoor y = withOne(STRANGER, 0);
        y.person(WORKER, 0);
        y.set(1, IN, 1);
        y.seconds(1);
        due.is("11 the other is in", y.now(2), 0);
        HeldDoor z = withOne(STRANGER, 0);
        z.door(1, 5);
        z.seconds(1);
        due.is("11 as it is", z.now(2), 4);
    }

    // A SECOND (2): "or as it is, if that is more (60 at most)"
    private static void heldAsItIsIfMore() {
        int[] before = {0, 8, 9, 10, 60};
        int[] after = {8, 8, 8, 9, 59};
        for (int i = 0; i < before.length; i++) {
            HeldDoor x = withOne(STRANGER, 0);
            x.person(WORKER, 500);
            x.door(1, before[i]);
            x.seconds(1);
            due.is("11 held 9 at " + before[i], x.now(2), after[i]);
        }
        HeldDoor y = withOne(OLD, 0);
        y.person(WORKER, 15);
        y.set(1, LOAD, 9);
        y.door(1, 60);
        y.seconds(1);
        due.is("11 held 12 at 60", y.now(2), 59);
    }

    private static void heldForOneSecond() {
        // 4 feet off: held 1 second, which ends with this one, unless one stands behind it already.
        HeldDoor x = withOne(WORKER, 0);
        withBare(x, WORKER, 4);
        due.is("11 behind it at once", x.seconds(1), 3);
        HeldDoor y = withOne(WORKER, 0);
        withBare(y, WORKER, 7);
        y.seconds(1);
        due.is("11 3 feet are left, and it is shut", y.now(2), 0);
        due.is("11 too late", y.seconds(200), 1);
        HeldDoor z = withOne(WORKER, 0);
        withBare(z, WORKER, 8);
        z.seconds(1);
        due.is("11 4 feet are left, and it is open", z.now(2), 1);
        due.is("11 just in time", z.seconds(1), 3);
    }

    // A SECOND (3): "OPEN is 1 less (0 at least). SECOND is 1 more"
    private static void openOneLess() {
        int[] before = {0, 1, 2, 60};
        int[] after = {0, 0, 1, 59};
        for (int i = 0; i < before.length; i++) {
            HeldDoor x = new HeldDoor();
            x.door(1, before[i]);
            x.seconds(1);
            due.is("11 open " + before[i], x.now(2), after[i]);
            due.is("11 second", x.now(0), 1);
        }
        HeldDoor y = new HeldDoor();
        y.door(1, 60);
        y.seconds(59);
        due.is("11 open for one yet", y.now(2), 1);
        y.seconds(200);
        due.is("11 shut", y.now(2), 0);
        due.is("11 seconds", y.now(0), 259);
    }

    // Promise 12: "ON n SECONDS (0 to 400)"
    private static void onLeastAndMost() {
        onlyTells("12 feet on 0", () -> slow(999), x -> x.on(0, 0, 0), 999);
        onlyTells("12 feet on 1", () -> slow(999), x -> x.on(0, 1, 0), 997);
        onlyTells("12 feet on 399", () -> slow(999), x -> x.on(0, 399, 0), 201);
        onlyTells("12 feet on 400", () -> slow(999), x -> x.on(0, 400, 0), 199);
        onlyTells("12 in on 399", () -> slow(800), x -> x.on(0, 399, 1), 0);
        onlyTells("12 in on 400", () -> slow(800), x -> x.on(0, 400, 1), 1);
        onlyTells("12 in on 400", () -> slow(801), x -> x.on(0, 400, 1), 0);
        onlyTells("12 asked on 0", Edge::office, x -> x.on(2, 0, 2), 4);
        onlyTells("12 of the eighth", Edge::crowd, x -> x.on(7, 0, 0), 80);
    }

    // Promise 12: "BEYOND"
    private static void onOutside() {
        for (int n : new int[] {-1, 401, LOWEST, HIGHEST}) {
            refused("12 on " + n, Edge::office, x -> x.on(0, n, 0), BEYOND);
        }
        for (int p : new int[] {-1, 3, 7, 8, LOWEST, HIGHEST}) {
            refused("12 of " + p, Edge::office, x -> x.on(p, 0, 0), BEYOND);
        }
        refused("12 of the ninth", Edge::crowd, x -> x.on(8, 0, 0), BEYOND);
        refused("12 of nobody", HeldDoor::new, x -> x.on(0, 0, 0), BEYOND);
    }

    // Promise 12: "FEET (what 0), IN (1), ASKED (2)"
    private static void onWhat() {
        onlyTells("12 feet", () -> guarded(0), x -> x.on(1, 1, 0), 99);
        onlyTells("12 in", () -> guarded(0), x -> x.on(0, 1, 1), 1);
        onlyTells("12 asked", () -> guarded(0), x -> x.on(1, 1, 2), 1);
        for (int what : new int[] {-1, 3, LOWEST, HIGHEST}) {
            refused("12 what " + what, Edge::office, x -> x.on(0, 0, what), BEYOND);
        }
        // Neither GOES nor what of() tells by this number.
        refused("12 what 6", Edge::office, x -> x.on(0, 0, 6), BEYOND);
    }

    private static void onPastTheLastSecond() {
        HeldDoor x = lastSecond();
        x.person(WORKER, 40);
        due.is("12 past the last second", x.on(3, 10, 1), 1);
        due.is("13 past the last second", x.loose(400), x.loose(399));
        due.is("14 past the last second", x.comes(3), 10);
        due.is("11 stays", x.now(0), 999999);
    }

    // Promise 13: "LOOSE ON n SECONDS (0 to 400)"
    private static void looseLeastAndMost() {
        // Both come to the door in the 400th second, and the second one slips in behind the first.
        Making both = () -> {
            HeldDoor x = slow(800);
            withBare(x, OLD, 800);
            x.set(1, LOAD, 9);
            return x;
        };
        onlyTells("13 on 0", both, x -> x.loose(0), 0);
        onlyTells("13 on 399", both, x -> x.loose(399), 0);
        onlyTells("13 on 400", both, x -> x.loose(400), 1);
        HeldDoor y = crowd();
        for (int p = 0; p < 8; p++) {
            y.set(p, IN, 1);
            y.set(p, BADGE, 0);
        }
        due.is("13 all eight on 0", y.loose(0), 8);
        due.is("13 all eight on 400", y.loose(400), 8);
        due.is("13 nobody", new HeldDoor().loose(400), 0);
    }

    // Promise 13: "BEYOND"
    private static void looseOutside() {
        for (int n : new int[] {-1, 401, LOWEST, HIGHEST}) {
            refused("13 on " + n, Edge::office, x -> x.loose(n), BEYOND);
        }
    }

    // Promise 14: "In how many SECONDS (0 to 400) ON one is IN first"
    private static void comesLeastAndMost() {
        onlyTells("14 is in", Edge::office, x -> x.comes(0), 0);
        onlyTells("14 at the door", () -> withOne(WORKER, 0), x -> x.comes(0), 1);
        onlyTells("14 4 feet", () -> withOne(WORKER, 4), x -> x.comes(0), 1);
        onlyTells("14 5 feet", () -> withOne(WORKER, 5), x -> x.comes(0), 2);
        onlyTells("14 399", () -> slow(798), x -> x.comes(0), 399);
        onlyTells("14 400", () -> slow(800), x -> x.comes(0), 400);
    }

    // Promise 14: "NONE"
    private static void comesNever() {
        refused("14 401", () -> slow(801), x -> x.comes(0), NONE);
        refused("14 500", () -> slow(999), x -> x.comes(0), NONE);
        refused("14 without a badge", () -> withBare(new HeldDoor(), WORKER, 0), x -> x.comes(0), NONE);
    }

    // Promise 14: "BEYOND. NONE", in this order
    private static void comesOutside() {
        for (int p : new int[] {-1, 3, 7, 8, LOWEST, HIGHEST}) {
            refused("14 of " + p, Edge::office, x -> x.comes(p), BEYOND);
        }
        refused("14 of nobody", HeldDoor::new, x -> x.comes(0), BEYOND);
    }

    // Promise 15: "In how many SECONDS (0 to 400) ON the door is shut (OPEN 0) first"
    private static void shutsLeastAndMost() {
        for (int open : new int[] {0, 1, 2, 59, 60}) {
            onlyTells("15 open " + open, () -> {
                HeldDoor x = new HeldDoor();
                x.door(1, open);
                return x;
            }, x -> x.shuts(), open);
        }
        // It is shut now, though it will be opened in the next second.
        onlyTells("15 shut first", () -> {
            HeldDoor x = withOne(STRANGER, 0);
            x.person(WORKER, 500);
            return x;
        }, x -> x.shuts(), 0);
    }

    private static void shutsHeldAgain() {
        // A stranger that comes holds it 9 seconds, of which one ends with the second in which it came.
        for (int feet : new int[] {357, 358}) {
            HeldDoor x = withOne(STRANGER, feet);
            x.person(OLD, 999);
            x.door(1, 60);
            int came = (feet + 6) / 7;
            due.is("15 held again", x.shuts(), Math.max(60, came + 8));
        }
        // One after another: as long as it can be held, it is shut within 400 seconds; so there is no NONE.
        HeldDoor y = new HeldDoor();
        for (int p = 0; p < 8; p++) {
            y.person(STRANGER, 413 + 56 * p);
        }
        y.door(1, 60);
        // The first comes in the 59th second, each other one 8 seconds later, just before it falls shut.
        due.is("15 seven hold it again", y.shuts(), 59 + 7 * 8);
        due.is("15 no finding", y.status(-1), 0);
    }

    // Promise 16: "In how many SECONDS (0 to 400) ON all are IN first"
    private static void allLeastAndMost() {
        onlyTells("16 nobody", HeldDoor::new, x -> x.all(), 0);
        onlyTells("16 all are in", () -> {
            HeldDoor x = withOne(WORKER, 500);
            x.set(0, IN, 1);
            return x;
        }, x -> x.all(), 0);
        onlyTells("16 at the door", () -> withOne(WORKER, 0), x -> x.all(), 1);
        onlyTells("16 399", () -> slow(798), x -> x.all(), 399);
        onlyTells("16 400", () -> slow(800), x -> x.all(), 400);
        onlyTells("16 the last of two", () -> {
            HeldDoor x = slow(800);
            x.person(WORKER, 4);
            return x;
        }, x -> x.all(), 400);
    }

    // Promise 16: "NONE"
    private static void allNever() {
        refused("16 401", () -> slow(801), x -> x.all(), NONE);
        refused("16 one without a badge", () -> withBare(withOne(WORKER, 0), WORKER, 100), x -> x.all(), NONE);
        refused("16 the first without a badge", () -> {
            HeldDoor x = withBare(new HeldDoor(), WORKER, 100);
            x.person(WORKER, 0);
            return x;
        }, x -> x.all(), NONE);
    }
}
