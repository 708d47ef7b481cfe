/** The edges that the document names of a new object and of the door: promises 1 to 3. */
public final class EdgeDoorTest extends Edge {
    public static void main(String[] args) {
        newNobodyThere();
        newTapeIsEmpty();
        newNoImageIsKept();
        newDoorAtFirst();
        newSheetsAreMissing();
        newStatusIsNone();
        newSharesNothing();
        doorCareLeastAndMost();
        doorOpenLeastAndMost();
        doorOtherWhat();
        doorAnswersWhatItWas();
        nowFirstAndLastWhat();
        nowOtherWhat();
        nowBy();
        nowSetsOfAll();
        nowSetsOfNone();
        nowLooseIsInAndBare();
        nowAskedOfAll();
        nowChangesNothing();
        due.end();
    }

    // Promise 1: "Nobody there"
    private static void newNobodyThere() {
        HeldDoor x = new HeldDoor();
        due.is("1 people", x.count(0), 0);
        due.is("1 without a badge", x.count(2), 0);
        due.is("1 loads", x.count(3), 0);
        due.is("1 in", x.now(4), 0);
        due.is("1 loose", x.now(5), 0);
        due.is("1 asked", x.now(6), 0);
        refused("1 of nobody", HeldDoor::new, y -> y.of(0, 0), BEYOND);
        due.is("1 the first number", x.person(WORKER, 0), 0);
    }

    // Promise 1: "THE TAPE is empty"
    private static void newTapeIsEmpty() {
        HeldDoor x = new HeldDoor();
        due.is("1 bytes", x.count(1), 0);
        due.is("1 no text", x.morning(), -1);
        due.is("1 wiped", x.wipe(), 0);
        due.is("1 the first byte", x.feed('a', 1), 1);
    }

    // Promise 1: "no image is kept"
    private static void newNoImageIsKept() {
        refused("1 undo", HeldDoor::new, x -> x.undo(), NONE);
        due.is("1 tear", new HeldDoor().tear(), 0);
    }

    // Terms: "SECOND: 0 at first", "20 at first", "0: shut, at first", "-1: nobody, at first"
    private static void newDoorAtFirst() {
        HeldDoor x = new HeldDoor();
        due.is("1 second", x.now(0), 0);
        due.is("1 care", x.now(1), 20);
        due.is("1 open", x.now(2), 0);
        due.is("1 by", x.now(3), -1);
    }

    // Terms: "or MISSING (at first)"
    private static void newSheetsAreMissing() {
        for (int s = 0; s < 4; s++) {
            int sheet = s;
            refused("1 sheet " + s, HeldDoor::new, x -> x.write(sheet, 0, 0), MISSING);
        }
    }

    private static void newStatusIsNone() {
        HeldDoor x = new HeldDoor();
        for (int which = -1; which <= 6; which++) {
            due.is("1 status " + which, x.status(which), 0);
        }
    }

    private static void newSharesNothing() {
        HeldDoor before = new HeldDoor();
        HeldDoor spoilt = office();
        spoilt.undo();
        spoilt.now(7);
        due.is("1 people of another one", before.count(0), 0);
        due.is("1 bytes of another one", before.count(1), 0);
        due.is("1 findings of another one", before.status(-1), 0);
        due.is("1 image of another one", before.tear(), 0);
        due.is("1 sheet of another one", before.lays(0), MISSING);
        due.is("1 people behind another one", new HeldDoor().count(0), 0);
        due.is("1 findings behind another one", new HeldDoor().status(-1), 0);
    }

    // Terms: "CARE (0 to 99 ..)"
    private static void doorCareLeastAndMost() {
        HeldDoor x = office();
        due.is("2 care 0", x.door(0, 0), 35);
        due.is("2 is 0", x.now(1), 0);
        due.is("2 care 99", x.door(0, 99), 0);
        due.is("2 is 99", x.now(1), 99);
        due.is("2 open stays", x.now(2), 7);
        for (int v : new int[] {-1, 100, LOWEST, HIGHEST}) {
            refused("2 care " + v, Edge::office, y -> y.door(0, v), BEYOND);
        }
    }

    // Terms: "OPEN .. (0 to 60; 0: shut ..)"
    private static void doorOpenLeastAndMost() {
        HeldDoor x = office();
        due.is("2 open 0", x.door(1, 0), 7);
        due.is("2 is 0", x.now(2), 0);
        due.is("2 open 60", x.door(1, 60), 0);
        due.is("2 is 60", x.now(2), 60);
        due.is("2 care stays", x.now(1), 35);
        due.is("2 by stays", x.now(3), 0);
        // 61 and 99 would do as CARE.
        for (int v : new int[] {-1, 61, 99, LOWEST, HIGHEST}) {
            refused("2 open " + v, Edge::office, y -> y.door(1, v), BEYOND);
        }
    }

    // Promise 2: "CARE (what 0), OPEN (1)", and no other
    private static void doorOtherWhat() {
        for (int what : new int[] {-1, 2, 3, LOWEST, HIGHEST}) {
            refused("2 what " + what, Edge::office, y -> y.door(what, 0), BEYOND);
        }
    }

    // Promise 2: "becomes v: what it was"
    private static void doorAnswersWhatItWas() {
        HeldDoor x = new HeldDoor();
        due.is("2 was", x.door(0, 20), 20);
        due.is("2 the same again", x.door(0, 20), 20);
        due.is("2 was", x.door(1, 0), 0);
        due.is("2 was", x.door(1, 1), 0);
        due.is("2 was", x.door(1, 1), 1);
    }

    // Promise 3: "What 0 SECOND, .. 6 ASKED of all together"
    private static void nowFirstAndLastWhat() {
        int[] told = {2, 35, 7, 0, 1, 0, 4};
        for (int what = 0; what < told.length; what++) {
            due.is("3 now " + what, office().now(what), told[what]);
        }
    }

    // Promise 3: "BEYOND"
    private static void nowOtherWhat() {
        for (int what : new int[] {-1, 7, LOWEST, HIGHEST}) {
            refused("3 now " + what, Edge::office, x -> x.now(what), BEYOND);
        }
    }

    // Promise 3: "3 BY (-1)"
    private static void nowBy() {
        HeldDoor x = new HeldDoor();
        for (int p = 0; p < 8; p++) {
            x.person(WORKER, 999);
        }
        x.seconds(1);
        due.is("3 nobody came", x.now(3), -1);
        x.set(7, IN, 1);
        due.is("3 nobody came through", x.now(3), -1);
        x.set(7, IN, 0);
        x.set(7, FEET, 0);
        x.seconds(1);
        due.is("3 the last one", x.now(3), 7);
        x.set(7, IN, 0);
        due.is("3 came through it last, though out again", x.now(3), 7);
        x.set(0, FEET, 0);
        x.seconds(1);
        due.is("3 0, then 7 again", x.now(3), 7);
        x.set(0, IN, 0);
        x.seconds(1);
        due.is("3 the first one", x.now(3), 0);
    }

    // Terms: "Sets are told by bits", with all the 8 people there may be
    private static void nowSetsOfAll() {
        HeldDoor x = crowd();
        for (int p = 0; p < 8; p++) {
            x.set(p, IN, 1);
            x.set(p, BADGE, 0);
            due.is("3 in", x.now(4), (1 << p + 1) - 1);
            due.is("3 loose", x.now(5), (1 << p + 1) - 1);
        }
        for (int p = 0; p < 7; p++) {
            x.set(p, IN, 0);
        }
        due.is("3 the last alone is in", x.now(4), 128);
        due.is("3 the last alone is loose", x.now(5), 128);
    }

    private static void nowSetsOfNone() {
        HeldDoor x = crowd();
        due.is("3 none is in", x.now(4), 0);
        due.is("3 none is loose", x.now(5), 0);
    }

    // Terms: "LOOSE: one that is IN and has no BADGE"
    private static void nowLooseIsInAndBare() {
        for (int in = 0; in <= 1; in++) {
            for (int badge = 0; badge <= 1; badge++) {
                HeldDoor x = withOne(WORKER, 9);
                x.set(0, IN, in);
                x.set(0, BADGE, badge);
                due.is("3 loose, in " + in + ", badge " + badge, x.now(5), in == 1 && badge == 0 ? 1 : 0);
            }
        }
    }

    // Promise 3: "6 ASKED of all together"
    private static void nowAskedOfAll() {
        HeldDoor x = crowd();
        due.is("3 none was asked", x.now(6), 0);
        for (int p = 0; p < 8; p++) {
            x.set(p, ASKED, 999);
            due.is("3 asked", x.now(6), 999 * (p + 1));
        }
        x.set(3, IN, 1);
        due.is("3 those that are in, too", x.now(6), 7992);
    }

    private static void nowChangesNothing() {
        for (int what = 0; what < 7; what++) {
            int w = what;
            onlyTells("3 now " + what, Edge::office, x -> x.now(w), office().now(w));
        }
    }
}
