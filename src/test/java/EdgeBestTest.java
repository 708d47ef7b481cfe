/** The edges that the document names of what is best: promises 17 to 22. */
public final class EdgeBestTest extends Edge {
    private static final int[] OUTSIDE = {0, -1, 101, LOWEST, HIGHEST};
    private static final int[] NO_SUCH = {-1, 3, 7, 8, LOWEST, HIGHEST};

    public static void main(String[] args) {
        careByKinds();
        careNoMoreThanNow();
        careLeastAndMostSeconds();
        careNone();
        careOutside();
        kindOfSeveralTheLeast();
        kindFirstAndLast();
        kindLeastAndMostSeconds();
        kindOutside();
        farLeastAndMostFeet();
        farGreatestOfSome();
        farLeastAndMostSeconds();
        farNone();
        farOutside();
        orderFewerThanAsItIs();
        orderFewest();
        orderOfSeveralTheLeast();
        orderFirstAndLastPair();
        orderLeastAndMostSeconds();
        orderOutside();
        takeFewest();
        takeSoThatItIsSentAway();
        takeOfSeveralTheLeast();
        takeOneThatHasOne();
        takeLeastAndMostSeconds();
        takeNone();
        takeOutside();
        loadLeastAndMost();
        loadLeastAndMostSeconds();
        loadNone();
        loadOutside();
        due.end();
    }

    /** One of a kind comes in the first second, and one without a badge stands right behind it. */
    private static HeldDoor followed(int kind, int load) {
        HeldDoor x = withOne(kind, 0);
        withBare(x, WORKER, 4);
        x.set(1, LOAD, load);
        return x;
    }

    /** One that goes 2 feet in a second, and one without a badge that waits at the door for it. */
    private static HeldDoor awaited(int feet) {
        HeldDoor x = withOne(OLD, feet);
        x.set(0, LOAD, 9);
        return withBare(x, WORKER, 0);
    }

    private static HeldDoor open(HeldDoor x, int seconds) {
        x.door(1, seconds);
        return x;
    }

    // Promise 17: "The least CARE (0 to 99) ..", where each kind begins to ask
    private static void careByKinds() {
        onlyTells("17 worker", () -> followed(WORKER, 0), x -> x.care(1), 50);
        onlyTells("17 new", () -> followed(NEW, 1), x -> x.care(1), 20);
        onlyTells("17 old", () -> followed(OLD, 0), x -> x.care(1), 90);
        onlyTells("17 guard", () -> open(followed(GUARD, 0), 2), x -> x.care(1), 10);
        onlyTells("17 tester", () -> followed(TESTER, 0), x -> x.care(1), 0);
        onlyTells("17 nobody", HeldDoor::new, x -> x.care(100), 0);
        HeldDoor y = followed(OLD, 0);
        y.door(0, 99);
        due.is("17 whatever it is now", y.care(1), 90);
        due.is("17 stays", y.now(1), 99);
    }

    // Promise 17: "no more .. than now"
    private static void careNoMoreThanNow() {
        HeldDoor x = followed(WORKER, 0);
        withBare(x, WORKER, 500);
        x.set(2, IN, 1);
        due.is("17 one is loose now, and two would be", x.care(1), 50);
        x.set(1, IN, 1);
        due.is("17 both are loose now", x.care(1), 0);
    }

    // Promise 17: "ON n SECONDS (1 to 100)"
    private static void careLeastAndMostSeconds() {
        due.is("17 in the 100th", awaited(200).care(100), 90);
        due.is("17 not in the 99th", awaited(200).care(99), 0);
        due.is("17 in the 101st", awaited(201).care(100), 0);
        due.is("17 in the first", awaited(2).care(1), 90);
        due.is("17 in the second", awaited(3).care(1), 0);
    }

    // Promise 17: "NONE"
    private static void careNone() {
        refused("17 a worker never asks the laden", () -> followed(WORKER, 1), x -> x.care(1), NONE);
        refused("17 a stranger never asks", () -> followed(STRANGER, 0), x -> x.care(100), NONE);
    }

    // Promise 17: "BEYOND. NONE", in this order
    private static void careOutside() {
        for (int n : OUTSIDE) {
            refused("17 on " + n, () -> followed(WORKER, 1), x -> x.care(n), BEYOND);
        }
    }

    // Promise 18: "of several the least"
    private static void kindOfSeveralTheLeast() {
        onlyTells("18 all alike", Edge::crowd, x -> x.kind(7, 1), WORKER);
        onlyTells("18 new and tester and guard", () -> followed(WORKER, 0), x -> x.kind(0, 1), NEW);
        onlyTells("18 tester and guard", () -> followed(WORKER, 1), x -> {
            int care = x.door(0, 0);
            int kind = x.kind(0, 1);
            x.door(0, care);
            return kind;
        }, TESTER);
        HeldDoor y = crowd();
        for (int p = 0; p < 8; p++) {
            y.set(p, IN, 1);
            y.set(p, BADGE, 0);
        }
        due.is("18 all eight are loose", y.kind(7, 100), WORKER);
    }

    // Promise 18: "The KIND as one of which one lets fewest be LOOSE", from the first to the last
    private static void kindFirstAndLast() {
        HeldDoor x = open(followed(WORKER, 1), 2);
        x.door(0, 10);
        due.is("18 guard alone asks at 10", x.kind(0, 1), GUARD);
        x.door(0, 20);
        due.is("18 new asks at 20", x.kind(0, 1), NEW);
        HeldDoor y = open(followed(GUARD, 0), 2);
        y.door(0, 50);
        due.is("18 worker asks at 50", y.kind(0, 1), WORKER);
        due.is("18 stays", y.of(0, 0), GUARD);
        HeldDoor z = withOne(STRANGER, 4);
        withBare(z, WORKER, 0);
        z.set(1, LOAD, 1);
        z.door(0, 0);
        due.is("18 old isn't there yet", z.kind(0, 1), OLD);
    }

    // Promise 18: "ON n SECONDS (1 to 100)"
    private static void kindLeastAndMostSeconds() {
        // 400 feet take a worker, a new one and a stranger 100 seconds, an old one more.
        for (int feet : new int[] {400, 401}) {
            HeldDoor x = withOne(WORKER, feet);
            withBare(x, WORKER, 0);
            x.set(1, LOAD, 1);
            x.door(0, 0);
            due.is("18 on 100, " + feet, x.kind(0, 100), feet == 400 ? OLD : WORKER);
            due.is("18 on 99, " + feet, x.kind(0, 99), WORKER);
        }
    }

    // Promise 18: "BEYOND"
    private static void kindOutside() {
        for (int n : OUTSIDE) {
            refused("18 on " + n, Edge::office, x -> x.kind(0, n), BEYOND);
        }
        for (int p : NO_SUCH) {
            refused("18 of " + p, Edge::office, x -> x.kind(p, 1), BEYOND);
        }
        refused("18 of the ninth", Edge::crowd, x -> x.kind(8, 1), BEYOND);
        refused("18 of nobody", HeldDoor::new, x -> x.kind(0, 1), BEYOND);
    }

    // Promise 19: "The greatest FEET (0 to 199) of one now"
    private static void farLeastAndMostFeet() {
        // 198 feet take one that goes 2 feet in a second 99 seconds, 199 and 200 take 100.
        onlyTells("19 198", () -> awaited(999), x -> x.far(0, 99), 198);
        onlyTells("19 199", () -> awaited(999), x -> x.far(0, 100), 199);
        onlyTells("19 not 200, though it would be in", () -> withOne(WORKER, 999), x -> x.far(0, 50), 199);
        onlyTells("19 196", () -> withOne(WORKER, 999), x -> x.far(0, 49), 196);
        onlyTells("19 one that is in", Edge::office, x -> x.far(0, 1), 199);
        // However near: nobody goes less than 2 feet in a second, so 2 is the least that is told.
        onlyTells("19 2", () -> awaited(999), x -> x.far(0, 1), 2);
    }

    // Promise 19: "The greatest": those between may not do
    private static void farGreatestOfSome() {
        // 1 comes in the 10th second, and holds it for 0, who has no badge and comes before it by its number:
        // 4 feet off then, in the next second, or 8 feet off, in the one behind that, it slips in; else it doesn't.
        Making making = () -> {
            HeldDoor x = withBare(new HeldDoor(), WORKER, 500);
            x.person(WORKER, 40);
            return x;
        };
        refused("19 on 10", making, x -> x.far(0, 10), NONE);
        onlyTells("19 on 11", making, x -> x.far(0, 11), 44);
        onlyTells("19 on 12", making, x -> x.far(0, 12), 48);
        onlyTells("19 on 100", making, x -> x.far(0, 100), 48);
        for (int feet = 0; feet <= 60; feet++) {
            HeldDoor y = making.make();
            y.set(0, FEET, feet);
            due.is("19 in from " + feet, y.on(0, 100, 1), feet == 44 || feet == 48 ? 1 : 0);
        }
    }

    // Promise 19: "ON n SECONDS (1 to 100)"
    private static void farLeastAndMostSeconds() {
        due.is("19 in the 100th", awaited(200).far(1, 100), 199);
        due.is("19 not in the 99th", awaited(200).far(1, 99), NONE);
        due.is("19 in the 101st", awaited(201).far(1, 100), NONE);
        due.is("19 in the first", withOne(WORKER, 999).far(0, 1), 4);
    }

    // Promise 19: "NONE"
    private static void farNone() {
        refused("19 without a badge", () -> withBare(new HeldDoor(), WORKER, 0), x -> x.far(0, 100), NONE);
        onlyTells("19 while it is open", () -> open(withBare(new HeldDoor(), WORKER, 500), 1), x -> x.far(0, 100), 4);
    }

    // Promise 19: "BEYOND. NONE", in this order
    private static void farOutside() {
        for (int n : OUTSIDE) {
            refused("19 on " + n, () -> withBare(new HeldDoor(), WORKER, 0), x -> x.far(0, n), BEYOND);
        }
        for (int p : NO_SUCH) {
            refused("19 of " + p, Edge::office, x -> x.far(p, 1), BEYOND);
        }
        refused("19 of the ninth", Edge::crowd, x -> x.far(8, 1), BEYOND);
        due.is("19 of the eighth", crowd().far(7, 1), 4);
    }

    // Promise 20: "fewer than as it is", "NONE"
    private static void orderFewerThanAsItIs() {
        refused("20 nobody", HeldDoor::new, x -> x.order(1), NONE);
        refused("20 one alone", () -> withOne(WORKER, 0), x -> x.order(1), NONE);
        refused("20 none is loose", Edge::crowd, x -> x.order(1), NONE);
        // Whichever of the two is nearer by 4 feet, both come in the first second.
        refused("20 just as many", () -> followed(WORKER, 0), x -> x.order(1), NONE);
        refused("20 loose as it is", () -> {
            HeldDoor x = followed(WORKER, 0);
            x.set(1, IN, 1);
            return x;
        }, x -> x.order(1), NONE);
    }

    // Promise 20: "so that fewest are LOOSE"
    private static void orderFewest() {
        // 2 holds it for 1 and 3, who have no badges. With 0, far off, in the place of 1 or 3 one is loose yet;
        // with 0 in the place of 2, who would hold it for nobody without a load, none is.
        onlyTells("20 none before one", () -> {
            HeldDoor x = withOne(NEW, 300);
            withBare(x, WORKER, 8);
            x.person(WORKER, 0);
            withBare(x, WORKER, 8);
            x.door(0, 0);
            due.is("20 two as it is", x.loose(2), 2);
            return x;
        }, x -> x.order(2), 2);
    }

    // Promise 20: "of several the least"
    private static void orderOfSeveralTheLeast() {
        // 0 with 2, and 1 with 2: 2 stands far off.
        onlyTells("20 2 before 12", () -> {
            HeldDoor x = followed(WORKER, 0);
            x.person(NEW, 300);
            return x;
        }, x -> x.order(1), 2);
    }

    // Promise 20: "10 times the lesser and the other one"
    private static void orderFirstAndLastPair() {
        onlyTells("20 0 with 1", () -> awaited(200), x -> x.order(100), 1);
        onlyTells("20 6 with 7", () -> {
            HeldDoor x = new HeldDoor();
            for (int p = 0; p < 6; p++) {
                x.person(WORKER, 0);
            }
            withBare(x, WORKER, 4);
            x.person(NEW, 300);
            return x;
        }, x -> x.order(1), 67);
    }

    // Promise 20: "ON n SECONDS (1 to 100)"
    private static void orderLeastAndMostSeconds() {
        due.is("20 in the 100th", awaited(200).order(100), 1);
        due.is("20 not in the 99th", awaited(200).order(99), NONE);
        due.is("20 in the 101st", awaited(201).order(100), NONE);
    }

    // Promise 20: "BEYOND. NONE", in this order
    private static void orderOutside() {
        for (int n : OUTSIDE) {
            refused("20 on " + n, Edge::office, x -> x.order(n), BEYOND);
            refused("20 on " + n + ", nobody", HeldDoor::new, x -> x.order(n), BEYOND);
        }
    }

    // Promise 21: "leaves fewest IN"
    private static void takeFewest() {
        // With 1's badge taken, 1 and 2 stay outside; with 0's, only 0 does.
        onlyTells("21 one and the one it holds for", () -> {
            HeldDoor x = withOne(NEW, 0);
            x.person(WORKER, 0);
            return withBare(x, WORKER, 4);
        }, x -> x.take(1), 1);
    }

    private static void takeSoThatItIsSentAway() {
        // A guard is by, and the door is open: one whose badge was taken is asked, and sent away.
        onlyTells("21 sent away", () -> {
            HeldDoor x = withOne(GUARD, 0);
            x.seconds(1);
            x.person(WORKER, 0);
            return open(x, 60);
        }, x -> x.take(1), 1);
        // A guard holds it for one with a badge alone: without 2's, neither 2 nor 3 behind it comes in;
        // without 1's, 1 alone stays outside; without 0's, nobody does.
        onlyTells("21 not held for", () -> {
            HeldDoor x = withOne(WORKER, 500);
            x.set(0, IN, 1);
            x.person(GUARD, 0);
            x.person(WORKER, 8);
            withBare(x, WORKER, 8);
            x.door(0, 0);
            return x;
        }, x -> x.take(2), 2);
    }

    // Promise 21: "of several the least"
    private static void takeOfSeveralTheLeast() {
        onlyTells("21 none is in anyhow", Edge::crowd, x -> x.take(1), 0);
        HeldDoor y = crowd();
        for (int p = 0; p < 8; p++) {
            y.set(p, IN, 1);
        }
        due.is("21 all eight are in anyhow", y.take(100), 0);
    }

    // Promise 21: "(one that has one)"
    private static void takeOneThatHasOne() {
        HeldDoor x = crowd();
        for (int p = 0; p < 7; p++) {
            x.set(p, BADGE, 0);
        }
        due.is("21 the eighth", x.take(1), 7);
        x.set(3, BADGE, 1);
        due.is("21 the fourth", x.take(1), 3);
        HeldDoor y = crowd();
        y.set(0, BADGE, 0);
        due.is("21 not the first", y.take(1), 1);
        y.set(1, IN, 1);
        due.is("21 one that is in", y.take(1), 1);
    }

    // Promise 21: "ON n SECONDS (1 to 100)"
    private static void takeLeastAndMostSeconds() {
        for (int feet : new int[] {200, 201}) {
            HeldDoor x = withOne(WORKER, 999);
            x.person(OLD, feet);
            x.set(1, LOAD, 9);
            due.is("21 on 100, " + feet, x.take(100), feet == 200 ? 1 : 0);
            due.is("21 on 99, " + feet, x.take(99), 0);
        }
        HeldDoor y = withOne(WORKER, 5);
        y.person(WORKER, 4);
        due.is("21 on 1", y.take(1), 1);
    }

    // Promise 21: "NONE: nobody has one"
    private static void takeNone() {
        refused("21 nobody", HeldDoor::new, x -> x.take(1), NONE);
        refused("21 one without", () -> withBare(new HeldDoor(), WORKER, 0), x -> x.take(100), NONE);
        refused("21 one without, in", () -> {
            HeldDoor x = withBare(new HeldDoor(), WORKER, 0);
            x.set(0, IN, 1);
            return x;
        }, x -> x.take(100), NONE);
    }

    // Promise 21: "BEYOND. NONE", in this order
    private static void takeOutside() {
        for (int n : OUTSIDE) {
            refused("21 on " + n, Edge::office, x -> x.take(n), BEYOND);
            refused("21 on " + n + ", nobody", HeldDoor::new, x -> x.take(n), BEYOND);
        }
    }

    // Promise 22: "The least LOAD (0 to 9) of one with which it is IN"
    private static void loadLeastAndMost() {
        onlyTells("22 none", () -> followed(WORKER, 9), x -> x.load(1, 1), 0);
        onlyTells("22 one", () -> followed(NEW, 0), x -> {
            int care = x.door(0, 0);
            int load = x.load(1, 1);
            x.door(0, care);
            return load;
        }, 1);
        // Held so many seconds as it carries: from 24 feet at 3 feet in a second that is 8, and the one now.
        Making nine = () -> withBare(withOne(OLD, 0), WORKER, 27);
        onlyTells("22 nine", nine, x -> x.load(1, 9), 9);
        onlyTells("22 nine", nine, x -> x.load(1, 100), 9);
        refused("22 not there yet", nine, x -> x.load(1, 8), NONE);
        onlyTells("22 is in", Edge::office, x -> x.load(0, 1), 0);
        onlyTells("22 the eighth", () -> {
            HeldDoor x = crowd();
            x.set(7, FEET, 4);
            return x;
        }, x -> x.load(7, 1), 0);
    }

    // Promise 22: "ON n SECONDS (1 to 100)"
    private static void loadLeastAndMostSeconds() {
        due.is("22 in the 100th", withOne(OLD, 300).load(0, 100), 0);
        due.is("22 not in the 99th", withOne(OLD, 300).load(0, 99), NONE);
        due.is("22 in the 101st", withOne(OLD, 301).load(0, 100), NONE);
        due.is("22 in the first", withOne(OLD, 3).load(0, 1), 0);
    }

    // Promise 22: "NONE"
    private static void loadNone() {
        refused("22 without a badge", () -> withBare(new HeldDoor(), WORKER, 0), x -> x.load(0, 100), NONE);
        refused("22 nine are too few", () -> withBare(withOne(OLD, 0), WORKER, 28), x -> x.load(1, 100), NONE);
    }

    // Promise 22: "BEYOND. NONE", in this order
    private static void loadOutside() {
        for (int n : OUTSIDE) {
            refused("22 on " + n, () -> withBare(new HeldDoor(), WORKER, 0), x -> x.load(0, n), BEYOND);
        }
        for (int p : NO_SUCH) {
            refused("22 of " + p, Edge::office, x -> x.load(p, 1), BEYOND);
        }
        refused("22 of the ninth", Edge::crowd, x -> x.load(8, 1), BEYOND);
        refused("22 of nobody", HeldDoor::new, x -> x.load(0, 1), BEYOND);
    }
}
