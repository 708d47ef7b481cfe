/** The edges that the document names of sheets: promises 26 to 31. */
public final class EdgeSheetTest extends Edge {
    private static final int[] WIDTHS = {8, 16, 64};
    private static final int[] NO_SHEET = {-1, 4, LOWEST, HIGHEST};
    private static final int[] NO_SUCH = {-1, 3, 7, 8, LOWEST, HIGHEST};

    public static void main(String[] args) {
        sheetLeastAndMostNumbers();
        sheetAllZero();
        sheetMissing();
        sheetNoSuchSheet();
        sheetOtherBits();
        sheetSize();
        sheetTooMany();
        sheetOrderOfFindings();
        sheetOthersStay();
        writeFirstAndLast();
        writeLowestBits();
        writeNoSuchSheet();
        writeMissingBeforeNumber();
        writeNoSuchNumber();
        writeFindingsInLongs();
        copyAll();
        copyNone();
        copyAsTheyAllWere();
        copyNoSuchSheet();
        copyMissingBeforeKind();
        copyKindBeforeBeyond();
        copyNotSoMany();
        copyBelowZero();
        copyWrapAround();
        laysLeastAndMost();
        laysLeftOut();
        laysStandForNone();
        laysSigns();
        laysFindings();
        bookFirstAndLast();
        bookEmpty();
        bookCut();
        bookNothingElse();
        bookFindings();
        readEmpty();
        readJustSo();
        readNumbersAsTheyStand();
        readFindings();
        due.end();
    }

    /** A sheet whose numbers are 1, 2, .. */
    private static void fill(HeldDoor x, int s, int bits, int n) {
        x.sheet(s, bits, n);
        for (int i = 0; i < n; i++) {
            x.write(s, i, i + 1);
        }
    }

    /** Looks at the numbers of a sheet, and leaves them as they were. */
    private static void numbersAre(String call, HeldDoor x, int s, long... numbers) {
        for (int i = 0; i < numbers.length; i++) {
            long is = x.write(s, i, 0);
            due.is(call + ": number " + i, is, numbers[i]);
            x.write(s, i, is);
        }
        due.is(call + ": no more", x.write(s, numbers.length, 0), BEYOND);
    }

    // Terms: "rows of at most 40 numbers of 8, 16 or 64 bits"
    private static void sheetLeastAndMostNumbers() {
        for (int s = 0; s < 4; s++) {
            for (int bits : WIDTHS) {
                HeldDoor x = new HeldDoor();
                for (int n : new int[] {0, 1, 39, 40}) {
                    due.is("26 sheet of " + n, x.sheet(s, bits, n), n);
                    due.is("26 one behind the last", x.write(s, n, 0), BEYOND);
                    due.is("26 the last", n == 0 ? 0 : x.write(s, n - 1, 1), 0);
                }
            }
        }
    }

    // Promise 26: "A sheet has n numbers, all 0"
    private static void sheetAllZero() {
        for (int bits : WIDTHS) {
            HeldDoor x = new HeldDoor();
            fill(x, 2, bits, 40);
            due.is("26 again", x.sheet(2, bits, 40), 40);
            numbersAre("26 all 0", x, 2, new long[40]);
            fill(x, 2, bits, 40);
            x.sheet(2, bits, 3);
            due.is("26 longer again", x.sheet(2, bits, 6), 6);
            numbersAre("26 all 0", x, 2, new long[6]);
        }
        HeldDoor y = new HeldDoor();
        fill(y, 0, 64, 40);
        y.sheet(0, 0, 0);
        y.sheet(0, 8, 40);
        numbersAre("26 all 0 after it was missing", y, 0, new long[40]);
    }

    // Promise 26: "bits 0: it is MISSING: n (0 if it is MISSING)"
    private static void sheetMissing() {
        for (int n : new int[] {0, 1, 40}) {
            HeldDoor x = office();
            due.is("26 missing, " + n, x.sheet(0, 0, n), 0);
            due.is("26 is missing", x.write(0, 0, 0), MISSING);
            due.is("26 missing again, " + n, x.sheet(0, 0, n), 0);
        }
        // A sheet of none isn't missing.
        HeldDoor y = new HeldDoor();
        y.sheet(0, 8, 0);
        due.is("26 none", y.lays(0), 0);
    }

    // Promise 26: "BEYOND: no such sheet"
    private static void sheetNoSuchSheet() {
        for (int s : NO_SHEET) {
            refused("26 sheet " + s, Edge::office, x -> x.sheet(s, 8, 5), BEYOND);
            refused("26 sheet " + s + ", missing", Edge::office, x -> x.sheet(s, 0, 0), BEYOND);
        }
    }

    // Promise 26: "other bits"
    private static void sheetOtherBits() {
        for (int bits : new int[] {-1, 1, 7, 9, 15, 17, 32, 63, 65, -8, -64, 128, LOWEST, HIGHEST}) {
            refused("26 bits " + bits, Edge::office, x -> x.sheet(0, bits, 5), BEYOND);
        }
    }

    // Promise 26: "SIZE: n is below 0 (also with bits 0)"
    private static void sheetSize() {
        for (int bits : new int[] {0, 8, 16, 64}) {
            for (int n : new int[] {-1, -40, LOWEST}) {
                refused("26 bits " + bits + ", n " + n, Edge::office, x -> x.sheet(0, bits, n), SIZE);
            }
        }
    }

    // Promise 26: "BEYOND: n is above 40 (also with bits 0)"
    private static void sheetTooMany() {
        for (int bits : new int[] {0, 8, 16, 64}) {
            for (int n : new int[] {41, HIGHEST}) {
                refused("26 bits " + bits + ", n " + n, Edge::office, x -> x.sheet(0, bits, n), BEYOND);
            }
        }
    }

    // Promise 26: the findings' order: no such sheet and other bits before SIZE
    private static void sheetOrderOfFindings() {
        refused("26 sheet before size", Edge::office, x -> x.sheet(4, 8, -1), BEYOND);
        refused("26 sheet before size", Edge::office, x -> x.sheet(-1, 0, -1), BEYOND);
        refused("26 bits before size", Edge::office, x -> x.sheet(0, 32, -1), BEYOND);
        refused("26 bits before size", Edge::office, x -> x.sheet(0, -1, LOWEST), BEYOND);
    }

    private static void sheetOthersStay() {
        HeldDoor x = new HeldDoor();
        for (int s = 0; s < 4; s++) {
            fill(x, s, 16, 2);
        }
        x.sheet(1, 64, 3);
        x.sheet(2, 0, 3);
        numbersAre("26 the first", x, 0, 1, 2);
        numbersAre("26 the second", x, 1, 0, 0, 0);
        numbersAre("26 the last", x, 3, 1, 2);
    }

    // Promise 27: "Number i of a sheet becomes v: what it was"
    private static void writeFirstAndLast() {
        for (int s = 0; s < 4; s++) {
            HeldDoor x = new HeldDoor();
            x.sheet(s, 16, 40);
            due.is("27 the first", x.write(s, 0, 5), 0);
            due.is("27 the last", x.write(s, 39, 6), 0);
            due.is("27 the first was", x.write(s, 0, 7), 5);
            due.is("27 the last was", x.write(s, 39, 8), 6);
            due.is("27 between", x.write(s, 1, 0), 0);
            due.is("27 between", x.write(s, 38, 0), 0);
        }
    }

    // Promise 27: "(its lowest bits)"
    private static void writeLowestBits() {
        long[] written = {127, 128, 255, 256, -128, -129, 32767, 32768, 65535, 65536, -32768, -32769,
            1L << 31, 1L << 32, Long.MAX_VALUE, Long.MIN_VALUE, -1};
        long[] in8 = {127, -128, -1, 0, -128, 127, -1, 0, -1, 0, 0, -1, 0, 0, -1, 0, -1};
        long[] in16 = {127, 128, 255, 256, -128, -129, 32767, -32768, -1, 0, -32768, 32767, 0, 0, -1, 0, -1};
        HeldDoor x = new HeldDoor();
        x.sheet(0, 8, 1);
        x.sheet(1, 16, 1);
        x.sheet(2, 64, 1);
        for (int i = 0; i < written.length; i++) {
            for (int s = 0; s < 3; s++) {
                x.write(s, 0, written[i]);
                long is = s == 0 ? in8[i] : s == 1 ? in16[i] : written[i];
                due.is("27 " + written[i] + " in " + WIDTHS[s] + " bits", x.write(s, 0, 0), is);
            }
        }
    }

    // Promise 27: "BEYOND: no such sheet"
    private static void writeNoSuchSheet() {
        for (int s : NO_SHEET) {
            refused("27 sheet " + s, Edge::office, x -> x.write(s, 0, 5), BEYOND);
            refused("27 sheet " + s + ", no such number", Edge::office, x -> x.write(s, 40, 5), BEYOND);
        }
    }

    // Promise 27: "MISSING. BEYOND: no such number", in this order
    private static void writeMissingBeforeNumber() {
        for (int i : new int[] {0, -1, 40, LOWEST, HIGHEST}) {
            refused("27 missing, number " + i, Edge::office, x -> x.write(3, i, 5), MISSING);
        }
    }

    // Promise 27: "BEYOND: no such number"
    private static void writeNoSuchNumber() {
        for (int i : new int[] {-1, 3, 39, 40, LOWEST, HIGHEST}) {
            refused("27 number " + i + " of 3", Edge::office, x -> x.write(0, i, 5), BEYOND);
        }
        refused("27 number 40 of 40", Edge::office, x -> x.write(1, 40, 5), BEYOND);
        refused("27 number 0 of none", () -> {
            HeldDoor x = new HeldDoor();
            x.sheet(0, 64, 0);
            return x;
        }, x -> x.write(0, 0, 5), BEYOND);
    }

    // Terms: FINDINGS "(in longs, too)"
    private static void writeFindingsInLongs() {
        long beyond = new HeldDoor().write(4, 0, 0);
        long missing = new HeldDoor().write(0, 0, 0);
        due.is("27 beyond", beyond, -1000000001L);
        due.is("27 missing", missing, -1000000006L);
        // A number that looks like a finding is none.
        HeldDoor x = new HeldDoor();
        x.sheet(0, 64, 1);
        x.write(0, 0, BEYOND);
        due.is("27 a number", x.write(0, 0, 0), BEYOND);
        due.is("27 no finding", x.status(-1), 0);
    }

    private static HeldDoor rows() {
        HeldDoor x = new HeldDoor();
        fill(x, 0, 16, 6);
        x.sheet(1, 16, 4);
        x.sheet(2, 8, 6);
        return x;
    }

    // Promise 28: "n numbers of a sheet from one on come to another one from one on: n"
    private static void copyAll() {
        HeldDoor x = rows();
        due.is("28 one", x.copy(0, 5, 1, 0, 1), 1);
        numbersAre("28 one", x, 1, 6, 0, 0, 0);
        due.is("28 to the last", x.copy(0, 0, 1, 3, 1), 1);
        numbersAre("28 to the last", x, 1, 6, 0, 0, 1);
        due.is("28 all there is room for", x.copy(0, 2, 1, 0, 4), 4);
        numbersAre("28 all", x, 1, 3, 4, 5, 6);
        due.is("28 all there are", x.copy(1, 0, 0, 2, 4), 4);
        numbersAre("28 as it was", x, 0, 1, 2, 3, 4, 5, 6);
        for (int bits : WIDTHS) {
            HeldDoor y = new HeldDoor();
            fill(y, 3, bits, 40);
            y.write(3, 39, -1);
            y.sheet(0, bits, 40);
            due.is("28 forty", y.copy(3, 0, 0, 0, 40), 40);
            due.is("28 the first", y.write(0, 0, 0), 1);
            due.is("28 the last", y.write(0, 39, 0), -1);
        }
    }

    private static void copyNone() {
        onlyTells("28 none", EdgeSheetTest::rows, x -> x.copy(0, 0, 1, 0, 0), 0);
        onlyTells("28 none behind the last", EdgeSheetTest::rows, x -> x.copy(0, 6, 1, 4, 0), 0);
        onlyTells("28 a sheet on itself", EdgeSheetTest::rows, x -> x.copy(0, 0, 0, 0, 6), 6);
        onlyTells("28 none of none", () -> {
            HeldDoor x = new HeldDoor();
            x.sheet(0, 8, 0);
            x.sheet(1, 8, 0);
            return x;
        }, x -> x.copy(0, 0, 1, 0, 0), 0);
    }

    // Promise 28: "(as they all were)"
    private static void copyAsTheyAllWere() {
        HeldDoor x = rows();
        due.is("28 up by one", x.copy(0, 0, 0, 1, 5), 5);
        numbersAre("28 up by one", x, 0, 1, 1, 2, 3, 4, 5);
        HeldDoor y = rows();
        due.is("28 down by one", y.copy(0, 1, 0, 0, 5), 5);
        numbersAre("28 down by one", y, 0, 2, 3, 4, 5, 6, 6);
    }

    // Promise 28: "BEYOND: no such sheet (either)", before MISSING
    private static void copyNoSuchSheet() {
        for (int s : NO_SHEET) {
            refused("28 from sheet " + s, EdgeSheetTest::rows, x -> x.copy(s, 0, 1, 0, 1), BEYOND);
            refused("28 to sheet " + s, EdgeSheetTest::rows, x -> x.copy(0, 0, s, 0, 1), BEYOND);
            refused("28 from sheet " + s + " to a missing one", EdgeSheetTest::rows, x -> x.copy(s, 0, 3, 0, 1), BEYOND);
            refused("28 from a missing one to sheet " + s, EdgeSheetTest::rows, x -> x.copy(3, 0, s, 0, 1), BEYOND);
        }
    }

    // Promise 28: "MISSING: one is", before KIND and BEYOND
    private static void copyMissingBeforeKind() {
        for (int n : new int[] {0, 1, -1, 41}) {
            refused("28 from a missing one", EdgeSheetTest::rows, x -> x.copy(3, 0, 0, 0, n), MISSING);
            refused("28 to a missing one", EdgeSheetTest::rows, x -> x.copy(0, 0, 3, 0, n), MISSING);
            refused("28 both are missing", HeldDoor::new, x -> x.copy(0, 0, 1, 0, n), MISSING);
        }
    }

    // Promise 28: "KIND: they are not of as many bits", before BEYOND
    private static void copyKindBeforeBeyond() {
        for (int n : new int[] {0, 1, -1, 41}) {
            refused("28 16 to 8 bits", EdgeSheetTest::rows, x -> x.copy(0, 0, 2, 0, n), KIND);
            refused("28 8 to 16 bits", EdgeSheetTest::rows, x -> x.copy(2, -1, 0, 99, n), KIND);
        }
        refused("28 16 to 64 bits", Edge::office, x -> x.copy(1, 0, 2, 0, 1), KIND);
    }

    // Promise 28: "BEYOND: one has not so many"
    private static void copyNotSoMany() {
        refused("28 from has not so many", EdgeSheetTest::rows, x -> x.copy(1, 0, 0, 0, 5), BEYOND);
        refused("28 from has not so many from there on", EdgeSheetTest::rows, x -> x.copy(0, 3, 1, 0, 4), BEYOND);
        refused("28 to has not so many", EdgeSheetTest::rows, x -> x.copy(0, 0, 1, 0, 5), BEYOND);
        refused("28 to has not so many from there on", EdgeSheetTest::rows, x -> x.copy(0, 0, 1, 1, 4), BEYOND);
        refused("28 from behind the last", EdgeSheetTest::rows, x -> x.copy(0, 6, 1, 0, 1), BEYOND);
        refused("28 to behind the last", EdgeSheetTest::rows, x -> x.copy(0, 0, 1, 4, 1), BEYOND);
        refused("28 none from further off", EdgeSheetTest::rows, x -> x.copy(0, 7, 1, 0, 0), BEYOND);
        refused("28 none to further off", EdgeSheetTest::rows, x -> x.copy(0, 0, 1, 5, 0), BEYOND);
    }

    // Promise 28: "or from, to or n is below 0"
    private static void copyBelowZero() {
        for (int below : new int[] {-1, LOWEST}) {
            refused("28 from " + below, EdgeSheetTest::rows, x -> x.copy(0, below, 1, 0, 1), BEYOND);
            refused("28 to " + below, EdgeSheetTest::rows, x -> x.copy(0, 0, 1, below, 1), BEYOND);
            refused("28 n " + below, EdgeSheetTest::rows, x -> x.copy(0, 1, 1, 1, below), BEYOND);
            refused("28 none from " + below, EdgeSheetTest::rows, x -> x.copy(0, below, 1, 0, 0), BEYOND);
            refused("28 none to " + below, EdgeSheetTest::rows, x -> x.copy(0, 0, 1, below, 0), BEYOND);
        }
    }

    private static void copyWrapAround() {
        refused("28 from and n wrap", EdgeSheetTest::rows, x -> x.copy(0, HIGHEST, 1, 0, 1), BEYOND);
        refused("28 to and n wrap", EdgeSheetTest::rows, x -> x.copy(0, 0, 1, HIGHEST, 1), BEYOND);
        refused("28 n wraps", EdgeSheetTest::rows, x -> x.copy(0, 1, 1, 1, HIGHEST), BEYOND);
        refused("28 all wrap", EdgeSheetTest::rows, x -> x.copy(0, HIGHEST, 1, HIGHEST, HIGHEST), BEYOND);
        refused("28 below 0, and wraps", EdgeSheetTest::rows, x -> x.copy(0, LOWEST, 1, 0, LOWEST), BEYOND);
    }

    private static HeldDoor laid(int bits, long... numbers) {
        HeldDoor x = crowd();
        x.sheet(0, bits, numbers.length);
        for (int i = 0; i < numbers.length; i++) {
            x.write(0, i, numbers[i]);
        }
        return x;
    }

    // Promise 29: "(those that aren't 0 to 999 .. are left out)"
    private static void laysLeastAndMost() {
        comesTo("29 0 and 999", () -> laid(16, 0, 999), x -> x.lays(0), 2, x -> x.set(0, FEET, 0) + x.set(1, FEET, 999));
        onlyTells("29 -1 and 1000", () -> laid(16, -1, 1000), x -> x.lays(0), 0);
        comesTo("29 between", () -> laid(16, -1, 7, 1000, 8), x -> x.lays(0), 2, x -> x.set(1, FEET, 7) + x.set(3, FEET, 8));
        comesTo("29 what it was", () -> laid(16, 10, 20), x -> x.lays(0), 2, x -> 0);
    }

    private static void laysLeftOut() {
        // What would be 5 if it were cut to 32 bits, and the farthest numbers.
        onlyTells("29 left out", () -> laid(64, (1L << 32) + 5, -(1L << 32) + 5, Long.MAX_VALUE, Long.MIN_VALUE, HIGHEST, LOWEST),
            x -> x.lays(0), 0);
    }

    // Promise 29: "or stand for none"
    private static void laysStandForNone() {
        comesTo("29 for the eighth, and none behind it", () -> laid(8, 0, 1, 2, 3, 4, 5, 6, 7, 8, 9), x -> x.lays(0), 8, x -> {
            for (int p = 0; p < 8; p++) {
                x.set(p, FEET, p);
            }
            return 8;
        });
        onlyTells("29 nobody", () -> {
            HeldDoor x = new HeldDoor();
            x.sheet(0, 8, 40);
            return x;
        }, x -> x.lays(0), 0);
        onlyTells("29 no numbers", () -> laid(8), x -> x.lays(0), 0);
        comesTo("29 for the first alone", () -> laid(64, 5), x -> x.lays(0), 1, x -> x.set(0, FEET, 5));
        HeldDoor y = laid(8, 3);
        y.set(0, IN, 1);
        due.is("29 of one that is in, too", y.lays(0), 1);
        due.is("29 feet", y.of(0, FEET), 3);
    }

    private static void laysSigns() {
        comesTo("29 127, and 128 in 8 bits", () -> laid(8, 127, 128, 255), x -> x.lays(0), 1, x -> x.set(0, FEET, 127));
        comesTo("29 256 in 8 bits", () -> laid(8, 256), x -> x.lays(0), 1, x -> x.set(0, FEET, 0));
        comesTo("29 65536 and more in 16 bits", () -> laid(16, 65536 + 7, 65535), x -> x.lays(0), 1, x -> x.set(0, FEET, 7));
    }

    // Promise 29: "BEYOND: no such sheet. MISSING"
    private static void laysFindings() {
        for (int s : NO_SHEET) {
            refused("29 sheet " + s, Edge::office, x -> x.lays(s), BEYOND);
        }
        refused("29 missing", Edge::office, x -> x.lays(3), MISSING);
        refused("29 missing, nobody there", HeldDoor::new, x -> x.lays(0), MISSING);
    }

    // Promise 30: "FEET of one ON 0, 1, 2, .. SECONDS comes to a sheet, as many as it has numbers"
    private static void bookFirstAndLast() {
        HeldDoor x = withOne(WORKER, 999);
        x.sheet(0, 16, 40);
        due.is("30 forty", x.book(0, 0), 40);
        for (int i = 0; i < 40; i++) {
            due.is("30 number " + i, x.write(0, i, 0), 999 - 4 * i);
        }
        x.sheet(0, 64, 1);
        due.is("30 one", x.book(0, 0), 1);
        numbersAre("30 one", x, 0, 999);
        HeldDoor y = crowd();
        y.sheet(3, 64, 2);
        due.is("30 the eighth", y.book(3, 7), 2);
        numbersAre("30 the eighth", y, 3, 80, 76);
        // One that comes in stands at 0 then; one that is sent away, at 99.
        HeldDoor z = withOne(WORKER, 6);
        z.sheet(0, 8, 4);
        z.book(0, 0);
        numbersAre("30 one that comes in", z, 0, 6, 2, 0, 0);
    }

    private static void bookEmpty() {
        onlyTells("30 of none", () -> {
            HeldDoor x = withOne(WORKER, 50);
            x.sheet(0, 8, 0);
            return x;
        }, x -> x.book(0, 0), 0);
    }

    private static void bookCut() {
        int[] feet = {127, 128, 255, 256, 999};
        long[] in8 = {127, -128, -1, 0, -25};
        for (int i = 0; i < feet.length; i++) {
            HeldDoor x = withOne(WORKER, feet[i]);
            x.sheet(0, 8, 1);
            x.sheet(1, 16, 1);
            due.is("30 in 8 bits", x.book(0, 0), 1);
            due.is("30 in 16 bits", x.book(1, 0), 1);
            numbersAre("30 " + feet[i] + " in 8 bits", x, 0, in8[i]);
            numbersAre("30 " + feet[i] + " in 16 bits", x, 1, feet[i]);
        }
    }

    private static void bookNothingElse() {
        comesTo("30 only the sheet", Edge::office, x -> x.book(0, 2), 3, x -> x.write(0, 0, 68) + x.write(0, 1, 62) + x.write(0, 2, 56));
    }

    // Promise 30: "BEYOND: no such sheet. MISSING. BEYOND: person", in this order
    private static void bookFindings() {
        for (int s : NO_SHEET) {
            refused("30 sheet " + s, Edge::office, x -> x.book(s, 0), BEYOND);
        }
        for (int p : NO_SUCH) {
            refused("30 of " + p, Edge::office, x -> x.book(0, p), BEYOND);
            refused("30 missing, of " + p, Edge::office, x -> x.book(3, p), MISSING);
        }
        refused("30 missing", Edge::office, x -> x.book(3, 0), MISSING);
        refused("30 the ninth", () -> laid(8, 1), x -> x.book(0, 8), BEYOND);
        refused("30 of none, nobody", () -> {
            HeldDoor x = new HeldDoor();
            x.sheet(0, 8, 0);
            return x;
        }, x -> x.book(0, 0), BEYOND);
    }

    private static HeldDoor walked(int feet, long... numbers) {
        HeldDoor x = withOne(TESTER, feet);
        x.set(0, LOAD, 6);
        x.sheet(0, 64, numbers.length);
        for (int i = 0; i < numbers.length; i++) {
            x.write(0, i, numbers[i]);
        }
        return x;
    }

    // Promise 31: a sheet of no numbers is just so for all pairs of 6 KINDS and 10 LOADS
    private static void readEmpty() {
        onlyTells("31 of none", () -> walked(50), x -> x.read(0, 0), 60);
        onlyTells("31 where it stands", () -> walked(50, 50), x -> x.read(0, 0), 60);
        onlyTells("31 where it doesn't stand", () -> walked(50, 51), x -> x.read(0, 0), 0);
        onlyTells("31 the eighth", () -> laid(8), x -> x.read(0, 7), 60);
    }

    // Promise 31: "how many pairs of a KIND and a LOAD (0 to 9) of it make it just so"
    private static void readJustSo() {
        // Shut: 4 feet are 3 kinds with 0 to 4; 3 feet are these with 5 to 9 and the other 3 with 0 to 4; 2 feet the rest.
        onlyTells("31 four feet", () -> walked(50, 50, 46, 42), x -> x.read(0, 0), 15);
        onlyTells("31 three feet", () -> walked(50, 50, 47, 44), x -> x.read(0, 0), 30);
        onlyTells("31 two feet", () -> walked(50, 50, 48, 46), x -> x.read(0, 0), 15);
        onlyTells("31 one foot", () -> walked(50, 50, 49, 48), x -> x.read(0, 0), 0);
        onlyTells("31 five feet", () -> walked(50, 50, 45, 40), x -> x.read(0, 0), 0);
        onlyTells("31 not the last", () -> walked(50, 50, 46, 43), x -> x.read(0, 0), 0);
        onlyTells("31 not the first", () -> walked(50, 49, 46, 42), x -> x.read(0, 0), 0);
        onlyTells("31 not between", () -> walked(50, 50, 47, 42), x -> x.read(0, 0), 0);
        // Open: 7 feet are a stranger without a load, 4 a worker or a new one with 0 to 4 or a tester with 5 to 9.
        Making open = () -> {
            HeldDoor x = walked(50, 50, 43, 36);
            x.door(1, 60);
            return x;
        };
        onlyTells("31 seven feet", open, x -> x.read(0, 0), 1);
        HeldDoor y = walked(50, 50, 46);
        y.door(1, 60);
        due.is("31 four feet, open", y.read(0, 0), 15);
        // Forty numbers, of which the last tells them apart.
        HeldDoor z = withOne(WORKER, 999);
        z.sheet(0, 64, 40);
        z.book(0, 0);
        due.is("31 forty", z.read(0, 0), 15);
        z.write(0, 39, 999 - 4 * 39 - 1);
        due.is("31 not the fortieth", z.read(0, 0), 0);
    }

    private static void readNumbersAsTheyStand() {
        HeldDoor x = withOne(WORKER, 127);
        x.sheet(0, 8, 1);
        x.book(0, 0);
        due.is("31 127 in 8 bits", x.read(0, 0), 60);
        x.set(0, FEET, 128);
        x.book(0, 0);
        due.is("31 128 in 8 bits is -128", x.read(0, 0), 0);
        onlyTells("31 no wrap-around", () -> walked(50, (1L << 32) + 50), y -> y.read(0, 0), 0);
        onlyTells("31 below 0", () -> walked(50, 50, -1), y -> y.read(0, 0), 0);
    }

    // Promise 31: "BEYOND: no such sheet. MISSING. BEYOND: person", in this order
    private static void readFindings() {
        for (int s : NO_SHEET) {
            refused("31 sheet " + s, Edge::office, x -> x.read(s, 0), BEYOND);
        }
        for (int p : NO_SUCH) {
            refused("31 of " + p, Edge::office, x -> x.read(0, p), BEYOND);
            refused("31 missing, of " + p, Edge::office, x -> x.read(3, p), MISSING);
        }
        refused("31 missing", Edge::office, x -> x.read(3, 0), MISSING);
        refused("31 the ninth", () -> laid(8, 1), x -> x.read(0, 8), BEYOND);
    }
}
