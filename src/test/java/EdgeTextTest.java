/** The edges that the document names of the tape and of the text of a morning: promises 23 to 25. */
public final class EdgeTextTest extends Edge {
    private static final String[] NAMES = {"worker", "new", "old", "stranger", "tester", "guard"};

    public static void main(String[] args) {
        feedLeastAndMostBytes();
        feedLowestBytesHighestFirst();
        feedOutside();
        feedUpToTheLastByte();
        feedFull();
        feedBeyondBeforeFull();
        wipeEmptyAndFull();
        wipeMakesRoom();
        morningItems();
        morningFeetLeastAndMost();
        morningLoadLeastAndMost();
        morningCareLeastAndMost();
        morningOpenLeastAndMost();
        morningEighthAndNinth();
        morningWholeTape();
        morningEndsTooEarly();
        morningFirstFault();
        morningLoadAndBareInOrder();
        morningTokensAsLongAsCanBe();
        morningLongNumbers();
        morningBlanks();
        morningEveryByte();
        morningFaultChangesNothing();
        due.end();
    }

    private static HeldDoor wiped() {
        HeldDoor x = office();
        x.wipe();
        return x;
    }

    /** The text tells so many items, which come to what another act comes to; the tape is empty then. */
    private static void told(String text, int items, Act other) {
        comesTo("25 '" + text + "'", EdgeTextTest::wiped, x -> Due.morning(x, text), items, other);
    }

    /** The text has a fault at a place; nothing changes but that the tape is empty, and there is no finding. */
    private static void fault(String text, int place) {
        comesTo("25 '" + text + "'", EdgeTextTest::wiped, x -> Due.morning(x, text), -1 - place, x -> 0);
    }

    // Promise 23: "(n 1 to 4): how many it has"
    private static void feedLeastAndMostBytes() {
        HeldDoor x = new HeldDoor();
        int has = 0;
        for (int n = 1; n <= 4; n++) {
            has += n;
            due.is("23 " + n + " bytes", x.feed(0x61616161, n), has);
            due.is("23 has", x.count(1), has);
        }
    }

    // Promise 23: "the n lowest bytes of a number .., the highest of these first"
    private static void feedLowestBytesHighestFirst() {
        HeldDoor x = new HeldDoor();
        x.feed(0xff7a7a6e, 1);
        x.feed(0xff7a6577, 2);
        x.feed(0xff203937, 3);
        x.feed(0x3b6f6c64, 4);
        x.feed(0x38, 1);
        due.is("23 'new 97;old8'", x.morning(), 2);
        due.is("23 new", x.of(0, 0), NEW);
        due.is("23 97", x.of(0, FEET), 97);
        due.is("23 old", x.of(1, 0), OLD);
        due.is("23 8", x.of(1, FEET), 8);
        // A number below 0 has its highest byte above 127; one that is small has bytes 0.
        HeldDoor y = new HeldDoor();
        y.feed(0x6f6c6438, 4);
        y.feed(0xe9202020, 4);
        due.is("23 the highest byte", y.morning(), -5);
        y.feed(0x6f6c6438, 4);
        y.feed(0x20, 3);
        due.is("23 bytes 0", y.morning(), -5);
    }

    // Promise 23: "BEYOND: n"
    private static void feedOutside() {
        for (int n : new int[] {0, -1, 5, LOWEST, HIGHEST}) {
            refused("23 " + n + " bytes", Edge::office, x -> x.feed(0x20202020, n), BEYOND);
        }
    }

    /** A tape of so many bytes, whose text stands at its end. */
    private static HeldDoor taped(int bytes) {
        HeldDoor x = new HeldDoor();
        String text = "care 7;open 9";
        Due.feed(x, " ".repeat(bytes - text.length()) + text);
        return x;
    }

    // Terms: "THE TAPE (bytes, at most 120)"
    private static void feedUpToTheLastByte() {
        for (int n = 1; n <= 4; n++) {
            int bytes = n;
            HeldDoor x = taped(120 - n);
            due.is("23 the last " + n, x.feed(0x20202020, n), 120);
            due.is("23 has", x.count(1), 120);
            due.is("23 told", x.morning(), 2);
            due.is("23 none before the last", taped(119 - n).feed(0x20202020, bytes), 119);
        }
    }

    // Promise 23: "FULL"
    private static void feedFull() {
        for (int n = 1; n <= 4; n++) {
            int bytes = n;
            for (int room = 0; room < n; room++) {
                int has = 120 - room;
                refused("23 " + n + " bytes at " + has, () -> taped(has), x -> x.feed(0x3b3b3b3b, bytes), FULL);
            }
        }
    }

    // Promise 23: "BEYOND: n. FULL", in this order
    private static void feedBeyondBeforeFull() {
        for (int n : new int[] {0, -1, 5, LOWEST, HIGHEST}) {
            refused("23 " + n + " bytes at 120", () -> taped(120), x -> x.feed(0, n), BEYOND);
        }
    }

    // Promise 24: "THE TAPE is empty: how many it had"
    private static void wipeEmptyAndFull() {
        onlyTells("24 empty", HeldDoor::new, x -> x.wipe(), 0);
        due.is("24 some", taped(13).wipe(), 13);
        HeldDoor x = taped(120);
        due.is("24 full", x.wipe(), 120);
        due.is("24 empty", x.count(1), 0);
        due.is("24 empty again", x.wipe(), 0);
        due.is("24 no text", x.morning(), -1);
        due.is("24 no finding", x.status(-1), 0);
        HeldDoor y = office();
        due.is("24 had", y.wipe(), 24);
        due.is("24 people stay", y.count(0), 3);
        due.is("24 care stays", y.now(1), 35);
    }

    private static void wipeMakesRoom() {
        HeldDoor x = taped(120);
        x.wipe();
        for (int i = 1; i <= 30; i++) {
            due.is("24 room again", x.feed(0x20202020, 4), 4 * i);
        }
        due.is("24 full again", x.feed(0x20, 1), FULL);
        due.is("24 nothing of what it had", x.morning(), -121);
    }

    // Promise 25: "whose ITEMS come to what there is, and empty then: how many ITEMS"
    private static void morningItems() {
        for (int k = 0; k < NAMES.length; k++) {
            int kind = k;
            told(NAMES[k] + " 7", 1, x -> x.person(kind, 7));
            told(NAMES[k] + " 7 bare", 1, x -> x.person(kind, 7) + x.set(3, BADGE, 0));
            told(NAMES[k] + " 7 load 4", 1, x -> x.person(kind, 7) + x.set(3, LOAD, 4));
            told(NAMES[k] + " 7 load 4 bare", 1, x -> x.person(kind, 7) + x.set(3, LOAD, 4) + x.set(3, BADGE, 0));
        }
        told("care 3", 1, x -> x.door(0, 3));
        told("open 3", 1, x -> x.door(1, 3));
        told("care 1;care 2;open 3;open 4", 4, x -> x.door(0, 2) + x.door(1, 4));
        told("old 1;care 2;new 3", 3, x -> x.person(OLD, 1) + x.person(NEW, 3) + x.door(0, 2));
    }

    // Terms: "a NUMBER (FEET, 0 to 999)"
    private static void morningFeetLeastAndMost() {
        told("new 0", 1, x -> x.person(NEW, 0));
        told("new 999", 1, x -> x.person(NEW, 999));
        fault("new 1000", 4);
        fault("new -1", 4);
        fault("care 5;new 1000;care 6", 11);
    }

    // Terms: "perhaps load and a NUMBER (0 to 9)"
    private static void morningLoadLeastAndMost() {
        told("new 5 load 0", 1, x -> x.person(NEW, 5));
        told("new 5 load 9", 1, x -> x.person(NEW, 5) + x.set(3, LOAD, 9));
        fault("new 5 load 10", 11);
        fault("new 5 load 999", 11);
        fault("new 5 load 1000", 11);
        fault("new 5 load 10 bare", 11);
    }

    // Terms: "care and a NUMBER (0 to 99)"
    private static void morningCareLeastAndMost() {
        told("care 0", 1, x -> x.door(0, 0));
        told("care 99", 1, x -> x.door(0, 99));
        fault("care 100", 5);
        fault("care 1000", 5);
        fault("new 5;care 100", 11);
    }

    // Terms: "open and a NUMBER (OPEN, 0 to 60)"
    private static void morningOpenLeastAndMost() {
        told("open 0", 1, x -> x.door(1, 0));
        told("open 60", 1, x -> x.door(1, 60));
        fault("open 61", 5);
        fault("open 99", 5);
        fault("new 5;open 61", 11);
    }

    // Terms: "the name of a KIND for a 9th: its own"
    private static void morningEighthAndNinth() {
        told("new 1;new 2;new 3;new 4;new 5", 5, EdgeTextTest::fiveMore);
        fault("new 1;new 2;new 3;new 4;new 5;new 6", 30);
        fault("new 1;new 2;new 3;new 4;new 5;care 9; guard 6", 38);
        fault("new 1;new 2;new 3;new 4;new 5; new", 31);
        fault("new 1;new 2;new 3;new 4;new 5; new 1000", 31);
        fault("new 1;new 2;new 3;new 4;new 5; nobody 1", 31);
        comesTo("25 care for eight", Edge::crowd, x -> Due.morning(x, "care 9;open 9"), 2, x -> x.door(0, 9) + x.door(1, 9));
        for (String name : NAMES) {
            comesTo("25 a 9th, " + name, Edge::crowd, x -> Due.morning(x, "care 9;" + name + " 1"), -8, x -> 0);
        }
    }

    private static int fiveMore(HeldDoor x) {
        for (int feet = 1; feet <= 5; feet++) {
            x.person(NEW, feet);
        }
        return 5;
    }

    // Terms: "THE TAPE (bytes, at most 120)": each of them is read
    private static void morningWholeTape() {
        String most = "care1;".repeat(19) + "care23";
        due.is("25 bytes", most.length(), 120);
        told(most, 20, x -> x.door(0, 23));
        fault("care1;".repeat(19) + "care1;", 120);
        fault("care1;".repeat(19) + "care1x", 119);
        fault("care1;".repeat(19) + "carexx", 114);
        told(" ".repeat(116) + "new1", 1, x -> x.person(NEW, 1));
        told("new1" + " ".repeat(116), 1, x -> x.person(NEW, 1));
        told("new " + "0".repeat(115) + "7", 1, x -> x.person(NEW, 7));
        fault(" ".repeat(117) + "new", 120);
        fault(" ".repeat(120), 120);
        fault(" ".repeat(119) + ";", 119);
    }

    // Terms: "or how many bytes there are if it ends too early"
    private static void morningEndsTooEarly() {
        fault("", 0);
        fault(" ", 1);
        fault("new", 3);
        fault("new ", 4);
        fault("new 1 load", 10);
        fault("new 1 load  ", 12);
        fault("care", 4);
        fault("open", 4);
        fault("new 1;", 6);
        fault("new 1 ; ", 8);
        fault("care 1;care", 11);
    }

    // Terms: "the first byte of the first TOKEN that can't stand there"
    private static void morningFirstFault() {
        fault("nex 1;olx 2", 0);
        fault("new 1;olx 2;care 100", 6);
        fault("new 1 new 2", 6);
        fault("new 1 2", 6);
        fault("new new", 4);
        fault("new ;", 4);
        fault("new load 1", 4);
        fault("new 1 load load", 11);
        fault("new 1 load bare", 11);
        fault("new 1 load ;", 11);
        fault("new 1 care 1", 6);
        fault("care care", 5);
        fault("care ;", 5);
        fault("care open 1", 5);
        fault("care 1 1", 7);
        fault("open new 1", 5);
        fault("open 1 bare", 7);
        fault(";", 0);
        fault(";new 1", 0);
        fault("new 1;;new 2", 6);
        fault("7", 0);
        fault("load 1", 0);
        fault("bare", 0);
        fault("New 1", 0);
        fault("NEW 1", 0);
    }

    // Terms: "perhaps load and a NUMBER .., perhaps bare": each once, in this order
    private static void morningLoadAndBareInOrder() {
        fault("new 1 bare load 2", 11);
        fault("new 1 load 2 load 3", 13);
        fault("new 1 bare bare", 11);
        fault("new 1 load 2 bare bare", 18);
        fault("care 1 load 2", 7);
        fault("open 1 load 2", 7);
    }

    // Terms: "TOKENS, each as long as can be"
    private static void morningTokensAsLongAsCanBe() {
        told("stranger7load3bare;old1", 2, x -> x.person(STRANGER, 7) + x.set(3, LOAD, 3) + x.set(3, BADGE, 0) + x.person(OLD, 1));
        fault("newnew 1", 0);
        fault("new 1 loadbare", 6);
        fault("new 1 load 2 bareold", 13);
        fault("careopen 1", 0);
        fault("ne w 1", 0);
        fault("n 1", 0);
        fault("new 1 2load 3", 6);
        fault("new 9 9", 6);
        fault("worke 1", 0);
        fault("workers 1", 0);
        fault("guar 1", 0);
        fault("guards 1", 0);
        fault("new 1 bar", 6);
        fault("new 1 bares", 6);
        fault("new 1 loa 2", 6);
        fault("new 1 loads 2", 6);
    }

    // Terms: "NUMBERS (digits, 999 at most)"
    private static void morningLongNumbers() {
        told("new 0000000999", 1, x -> x.person(NEW, 999));
        told("new 000", 1, x -> x.person(NEW, 0));
        told("care 00000099", 1, x -> x.door(0, 99));
        fault("new 0001000", 4);
        fault("new 9999", 4);
        fault("new 10000", 4);
        // What would be 5 by a wrap-around in 8, 16, 32 and 64 bits.
        fault("care 261", 5);
        fault("new 65541", 4);
        fault("new 4294967301", 4);
        fault("new 18446744073709551621", 4);
        fault("new 1" + "0".repeat(64), 4);
        fault("new " + "9".repeat(110), 4);
    }

    // Terms: "blanks may stand between"
    private static void morningBlanks() {
        told("  new  1  load  2  bare  ;  care  3  ", 2,
            x -> x.person(NEW, 1) + x.set(3, LOAD, 2) + x.set(3, BADGE, 0) + x.door(0, 3));
        told("new1load2bare;care3", 2, x -> x.person(NEW, 1) + x.set(3, LOAD, 2) + x.set(3, BADGE, 0) + x.door(0, 3));
        fault("  newt  1", 2);
        fault("  new  1000", 7);
        fault("  new  1  ;  x", 13);
    }

    // Terms: "a byte that begins no TOKEN"
    private static void morningEveryByte() {
        for (int b = 0; b < 256; b++) {
            char sign = (char) b;
            boolean isDigit = b >= '0' && b <= '9';
            boolean isLetter = b >= 'a' && b <= 'z';
            HeldDoor x = new HeldDoor();
            due.is("25 byte " + b + " at the end", Due.morning(x, "new 1" + sign), b == ' ' || isDigit ? 1 : b == ';' ? -7 : -6);
            HeldDoor y = new HeldDoor();
            due.is("25 byte " + b + " at the beginning", Due.morning(y, sign + "new 1"), b == ' ' ? 1 : -1);
            HeldDoor z = new HeldDoor();
            due.is("25 byte " + b + " between", Due.morning(z, "new" + sign + "1"), b == ' ' || isDigit ? 1 : isLetter ? -1 : -4);
            due.is("25 feet", z.count(0) == 0 ? -1 : z.of(0, FEET), b == ' ' ? 1 : isDigit ? 10 * (b - '0') + 1 : -1);
        }
    }

    // Promise 25: "With a FAULT: -1 less its place (nothing changes but that THE TAPE is empty; no finding)"
    private static void morningFaultChangesNothing() {
        fault("guard 7 load 2 bare;care 30;open 9;x", 35);
        fault("guard 7 load 2 bare;care 30;open 9 9", 35);
        fault("guard 7;guard 8 load 10", 21);
        // Those behind are told as if it had not been.
        HeldDoor x = wiped();
        Due.morning(x, "tester 9 load 8 bare;care 1;x");
        due.is("25 the next one", x.person(OLD, 4), 3);
        due.is("25 kind", x.of(3, 0), OLD);
        due.is("25 badge", x.of(3, BADGE), 1);
        due.is("25 load", x.of(3, LOAD), 0);
        due.is("25 the next text", Due.morning(x, "care 9"), 1);
        due.is("25 care", x.now(1), 9);
        due.is("25 no finding", x.status(-1), 0);
    }
}
