/** The edges that the document names of images and counts: promises 32 to 36. */
public final class EdgeImageTest extends Edge {
    public static void main(String[] args) {
        imageOfNobody();
        imageOfAll();
        imageNotTheTape();
        imageNotTheSheets();
        imageOfTheLatest();
        imageIsNoLink();
        undoNothingIsKept();
        undoStaysKept();
        undoHowMany();
        undoNotStatus();
        tearSomethingOrNothing();
        tearThenImage();
        countNoneAndAll();
        countOther();
        statusOfEach();
        statusOfEveryAct();
        statusOfNoFault();
        statusOther();
        statusOutlivesUndo();
        lastOfFiveHundredAndTwelve();
        due.end();
    }

    // Promise 32: ".. is kept: 1", with nobody there
    private static void imageOfNobody() {
        HeldDoor x = new HeldDoor();
        due.is("32 image", x.image(), 1);
        for (int p = 0; p < 8; p++) {
            x.person(GUARD, 0);
        }
        x.door(0, 99);
        x.door(1, 60);
        x.seconds(3);
        due.is("32 undo", x.undo(), 0);
        int[] first = {0, 20, 0, -1, 0, 0, 0};
        for (int what = 0; what < 7; what++) {
            due.is("32 now " + what, x.now(what), first[what]);
        }
        due.is("32 nobody", x.of(0, 0), BEYOND);
        due.is("32 the first again", x.person(WORKER, 5), 0);
        due.is("32 its badge", x.of(0, BADGE), 1);
        due.is("32 its in", x.of(0, IN), 0);
        due.is("32 its asked", x.of(0, ASKED), 0);
    }

    /** Eight people, each of whose numbers is another one. */
    private static HeldDoor full() {
        HeldDoor x = crowd();
        for (int p = 0; p < 8; p++) {
            x.set(p, BADGE, p % 2);
            x.set(p, LOAD, p + 1);
            x.set(p, FEET, 999 - p);
            x.set(p, IN, p / 4);
            x.set(p, ASKED, 100 * p);
        }
        x.set(1, FEET, 0);
        x.door(0, 44);
        x.door(1, 5);
        x.seconds(2);
        return x;
    }

    // Promise 32: "All that section 1 tells .. is kept"
    private static void imageOfAll() {
        HeldDoor x = full();
        due.is("32 image", x.image(), 1);
        int[] now = new int[7];
        int[][] of = new int[8][7];
        for (int what = 0; what < 7; what++) {
            now[what] = x.now(what);
            for (int p = 0; p < 8; p++) {
                of[p][what] = x.of(p, what);
            }
        }
        for (int p = 0; p < 8; p++) {
            x.turn(p, (of[p][0] + 1) % 6);
            x.set(p, BADGE, 1 - of[p][1]);
            x.set(p, LOAD, 9 - of[p][2]);
            x.set(p, IN, 0);
            x.set(p, FEET, p);
            x.set(p, ASKED, 7);
        }
        x.door(0, 1);
        x.door(1, 60);
        x.seconds(9);
        due.is("32 undo", x.undo(), 8);
        for (int what = 0; what < 7; what++) {
            due.is("32 now " + what, x.now(what), now[what]);
            for (int p = 0; p < 8; p++) {
                due.is("32 of " + p + " " + what, x.of(p, what), of[p][what]);
            }
        }
        due.is("32 by", x.now(3), 1);
        due.is("32 second", x.now(0), 2);
    }

    // Promise 32: "(THE TAPE not)"
    private static void imageNotTheTape() {
        HeldDoor x = new HeldDoor();
        Due.feed(x, "care 7");
        x.image();
        due.is("32 the tape stays", x.count(1), 6);
        Due.feed(x, "1");
        x.undo();
        due.is("32 not as it was", x.count(1), 7);
        due.is("32 told", x.morning(), 1);
        due.is("32 care", x.now(1), 71);
        x.undo();
        due.is("32 the tape is empty yet", x.count(1), 0);
    }

    private static void imageNotTheSheets() {
        HeldDoor x = new HeldDoor();
        x.sheet(0, 8, 1);
        x.sheet(1, 8, 1);
        x.image();
        x.write(0, 0, 5);
        x.sheet(1, 0, 0);
        x.sheet(2, 8, 1);
        x.undo();
        due.is("32 number", x.write(0, 0, 0), 5);
        due.is("32 missing", x.write(1, 0, 0), MISSING);
        due.is("32 not missing", x.write(2, 0, 0), 0);
    }

    // Promise 33: "what was kept latest"
    private static void imageOfTheLatest() {
        HeldDoor x = new HeldDoor();
        for (int p = 0; p < 8; p++) {
            x.person(WORKER, p);
            due.is("32 image", x.image(), 1);
        }
        x.seconds(9);
        due.is("33 the latest", x.undo(), 8);
        due.is("33 the latest yet", x.undo(), 8);
        due.is("33 second", x.now(0), 0);
    }

    private static void imageIsNoLink() {
        HeldDoor x = withOne(WORKER, 50);
        x.image();
        x.undo();
        x.set(0, FEET, 7);
        due.is("33 undo", x.undo(), 1);
        due.is("33 feet", x.of(0, FEET), 50);
        // What looks ahead leaves the image as it is.
        x.care(100);
        x.kind(0, 100);
        x.far(0, 100);
        x.load(0, 100);
        x.on(0, 400, 0);
        Due.morning(x, "care 5;x");
        x.undo();
        due.is("33 feet", x.of(0, FEET), 50);
        due.is("33 care", x.now(1), 20);
    }

    // Promise 33: "NONE: nothing is kept"
    private static void undoNothingIsKept() {
        refused("33 nothing", EdgeImageTest::full, x -> x.undo(), NONE);
        refused("33 torn", () -> {
            HeldDoor x = office();
            x.tear();
            return x;
        }, x -> x.undo(), NONE);
    }

    // Promise 33: "(which stays)"
    private static void undoStaysKept() {
        HeldDoor x = full();
        x.image();
        for (int i = 0; i < 3; i++) {
            x.seconds(100);
            due.is("33 again", x.undo(), 8);
            due.is("33 second", x.now(0), 2);
        }
        due.is("33 is kept", x.tear(), 1);
    }

    // Promise 33: "how many PEOPLE"
    private static void undoHowMany() {
        for (int n = 0; n <= 8; n++) {
            HeldDoor x = new HeldDoor();
            for (int p = 0; p < n; p++) {
                x.person(WORKER, p);
            }
            x.image();
            due.is("33 how many", x.undo(), n);
            x.person(WORKER, 0);
            due.is("33 how many again", x.undo(), n);
        }
        HeldDoor y = office();
        due.is("33 office", y.undo(), 2);
        due.is("33 no third", y.of(2, 0), BEYOND);
        due.is("33 the second", y.of(1, FEET), 60);
        due.is("33 by", y.now(3), -1);
    }

    // Promise 36: "(undo() takes none back)"
    private static void undoNotStatus() {
        HeldDoor x = new HeldDoor();
        x.image();
        x.now(7);
        x.sheet(0, 8, -1);
        x.undo();
        due.is("36 all", x.status(-1), 2);
        due.is("36 beyond", x.status(0), 1);
        due.is("36 size", x.status(6), 1);
    }

    // Promise 34: "Nothing is kept: 1 if something was, else 0"
    private static void tearSomethingOrNothing() {
        onlyTells("34 nothing", EdgeImageTest::full, x -> x.tear(), 0);
        HeldDoor x = full();
        x.image();
        x.image();
        due.is("34 something", x.tear(), 1);
        due.is("34 nothing", x.tear(), 0);
        due.is("34 people stay", x.count(0), 8);
        due.is("34 second stays", x.now(0), 2);
        due.is("34 no finding", x.status(-1), 0);
        due.is("34 nothing is kept", x.undo(), NONE);
    }

    private static void tearThenImage() {
        HeldDoor x = withOne(WORKER, 50);
        x.image();
        x.tear();
        x.set(0, FEET, 60);
        x.image();
        x.set(0, FEET, 70);
        due.is("34 kept again", x.undo(), 1);
        due.is("34 feet", x.of(0, FEET), 60);
    }

    // Promise 35: "0 PEOPLE, 1 bytes of THE TAPE, 2 those without a BADGE, 3 LOADS of all together"
    private static void countNoneAndAll() {
        for (int what = 0; what < 4; what++) {
            int w = what;
            onlyTells("35 none", HeldDoor::new, x -> x.count(w), 0);
        }
        HeldDoor x = crowd();
        due.is("35 all with a badge", x.count(2), 0);
        due.is("35 no loads", x.count(3), 0);
        for (int p = 0; p < 8; p++) {
            x.set(p, BADGE, 0);
            x.set(p, LOAD, 9);
            due.is("35 without a badge", x.count(2), p + 1);
            due.is("35 loads", x.count(3), 9 * (p + 1));
        }
        x.set(7, IN, 1);
        due.is("35 one that is in, too", x.count(2), 8);
        due.is("35 its load, too", x.count(3), 72);
        due.is("35 people", x.count(0), 8);
        Due.feed(x, " ".repeat(120));
        due.is("35 bytes", x.count(1), 120);
        int[] told = {3, 24, 1, 3};
        for (int what = 0; what < 4; what++) {
            int w = what;
            onlyTells("35 office " + what, Edge::office, y -> y.count(w), told[what]);
        }
        HeldDoor z = office();
        z.undo();
        due.is("35 people after undo", z.count(0), 2);
        due.is("35 badges after undo", z.count(2), 0);
        due.is("35 loads after undo", z.count(3), 0);
    }

    // Promise 35: "BEYOND: another what"
    private static void countOther() {
        for (int what : new int[] {-1, 4, LOWEST, HIGHEST}) {
            refused("35 count " + what, Edge::office, x -> x.count(what), BEYOND);
        }
    }

    // Promise 36: "which -1: all, 0 to 6: BEYOND to SIZE"
    private static void statusOfEach() {
        Act[] acts = {x -> x.now(7), x -> x.person(WORKER, 0), x -> x.as(0, GUARD), x -> x.undo(), null, x -> x.lays(0), x -> x.sheet(0, 8, -1)};
        int[] findings = {BEYOND, FULL, KIND, NONE, STATE, MISSING, SIZE};
        HeldDoor x = crowd();
        int all = 0;
        for (int which = 0; which < 7; which++) {
            // STATE takes more than 512 calls: EdgeSecondsTest has it.
            for (int times = 1; times <= which + 1 && acts[which] != null; times++) {
                due.is("36 finding " + which, acts[which].on(x), findings[which]);
                all++;
                due.is("36 status " + which, x.status(which), times);
                due.is("36 all", x.status(-1), all);
            }
        }
        int[] told = {1, 2, 3, 4, 0, 6, 7};
        for (int which = 0; which < 7; which++) {
            due.is("36 status " + which, x.status(which), told[which]);
        }
    }

    // Promise 36: "How many acts answered a finding ever": each act, once a call
    private static void statusOfEveryAct() {
        Act[] acts = {
            x -> x.door(2, 0), x -> x.now(7), x -> x.person(6, 0), x -> x.of(9, 0), x -> x.set(9, 1, 0), x -> x.turn(9, 0),
            x -> x.as(9, 0), x -> x.holds(0, 0), x -> x.asks(0, 0), x -> x.seconds(0), x -> x.on(0, 401, 0), x -> x.loose(401),
            x -> x.comes(9), x -> x.care(0), x -> x.kind(0, 0), x -> x.far(0, 0), x -> x.order(0), x -> x.take(0),
            x -> x.load(0, 0), x -> x.feed(0, 0), x -> x.sheet(4, 8, 0), x -> x.write(4, 0, 0), x -> x.copy(4, 0, 0, 0, 0),
            x -> x.lays(4), x -> x.book(4, 0), x -> x.read(4, 0), x -> x.count(4), x -> x.status(7)
        };
        HeldDoor x = office();
        for (int i = 0; i < acts.length; i++) {
            due.is("36 act " + i, acts[i].on(x), BEYOND);
            due.is("36 beyond after act " + i, x.status(0), i + 1);
            due.is("36 all after act " + i, x.status(-1), i + 1);
        }
    }

    // Promise 25: "no finding"; and -1 or below is no finding by itself
    private static void statusOfNoFault() {
        HeldDoor x = new HeldDoor();
        x.now(3);
        x.morning();
        Due.morning(x, "x");
        x.wipe();
        x.tear();
        due.is("36 no finding", x.status(-1), 0);
        onlyTells("36 all", Edge::office, y -> y.status(-1), 0);
    }

    // Promise 36: "BEYOND (counted from then on): another one"
    private static void statusOther() {
        for (int which : new int[] {-2, 7, LOWEST, HIGHEST}) {
            refused("36 status " + which, Edge::office, x -> x.status(which), BEYOND);
        }
        HeldDoor x = new HeldDoor();
        due.is("36 other", x.status(7), BEYOND);
        due.is("36 counted", x.status(0), 1);
        due.is("36 once", x.status(-1), 1);
        due.is("36 other", x.status(-2), BEYOND);
        due.is("36 counted", x.status(0), 2);
    }

    private static void statusOutlivesUndo() {
        HeldDoor x = new HeldDoor();
        x.now(7);
        x.image();
        x.undo();
        x.tear();
        x.wipe();
        x.morning();
        due.is("36 ever", x.status(0), 1);
    }

    // "An object is used for at most 512 calls after it has been made"
    private static void lastOfFiveHundredAndTwelve() {
        HeldDoor x = new HeldDoor();
        for (int i = 0; i < 510; i++) {
            x.now(7);
        }
        due.is("36 the 511th call", x.status(0), 510);
        due.is("36 the 512th call", x.status(-1), 510);
        HeldDoor y = withOne(WORKER, 999);
        for (int i = 1; i < 511; i++) {
            y.seconds(200);
        }
        due.is("11 the 512th call", y.now(0), 102000);
    }
}
