/** A door with a badge, and the people in a row before it: see README.md for how it is used. */
public final class HeldDoor {
    private static final int BEYOND = -1000000001;
    private static final int FULL = -1000000002;
    private static final int KIND = -1000000003;
    private static final int NONE = -1000000004;
    private static final int STATE = -1000000005;
    private static final int MISSING = -1000000006;
    private static final int SIZE = -1000000007;
    private static final int FINDINGS = 7;

    private static final int MOST_PEOPLE = 8;
    private static final int MOST_CARE = 99;
    private static final int MOST_OPEN = 60;
    private static final int MOST_LOAD = 9;
    private static final int MOST_FEET = 999;
    private static final int MOST_ASKED = 999;
    private static final int MOST_SECOND = 999999;
    private static final int SENT_AWAY_FEET = 99;
    private static final int NOBODY = -1;

    private static final int MOST_GOING = 200;
    private static final int MOST_ON = 400;
    private static final int MOST_WEIGHED = 100;
    private static final int MOST_FAR = 199;

    private static final int MOST_BYTES = 120;
    private static final int SHEETS = 4;
    private static final int MOST_NUMBERS = 40;

    private static final int WHAT_KIND = 0;
    private static final int WHAT_BADGE = 1;
    private static final int WHAT_LOAD = 2;
    private static final int WHAT_FEET = 3;
    private static final int WHAT_IN = 4;
    private static final int WHAT_ASKED = 5;
    private static final int WHAT_GOES = 6;

    private final Scene scene;
    private final Scene trial;
    private final Scene kept;
    private boolean isKept;
    private final Text text;
    private final Sheet[] sheets;
    private final int[] findings;

    public HeldDoor() {
        scene = new Scene();
        trial = new Scene();
        kept = new Scene();
        isKept = false;
        text = new Text();
        sheets = new Sheet[SHEETS];
        for (int s = 0; s < SHEETS; s++) {
            sheets[s] = new Sheet();
        }
        findings = new int[FINDINGS];
    }

    // ---- the door

    public int door(int what, int v) {
        int was;
        if (what == 0 && isFrom(0, MOST_CARE, v)) {
            was = scene.care;
            scene.care = v;
        } else if (what == 1 && isFrom(0, MOST_OPEN, v)) {
            was = scene.open;
            scene.open = v;
        } else {
            was = found(BEYOND);
        }
        return was;
    }

    public int now(int what) {
        switch (what) {
            case 0: return scene.second;
            case 1: return scene.care;
            case 2: return scene.open;
            case 3: return scene.by;
            case 4: return scene.setOfIn();
            case 5: return scene.setOfLoose();
            case 6: return scene.sumOf(scene.asked);
            default: return found(BEYOND);
        }
    }

    // ---- people

    public int person(int kind, int feet) {
        if (!Kinds.isKind(kind) || !isFrom(0, MOST_FEET, feet)) {
            return found(BEYOND);
        }
        if (scene.isFull()) {
            return found(FULL);
        }
        return scene.add(kind, feet);
    }

    public int of(int person, int what) {
        if (!isPerson(person)) {
            return found(BEYOND);
        }
        if (what == WHAT_GOES) {
            return scene.goesNow(person);
        }
        int[] row = scene.rowOf(what);
        return row == null ? found(BEYOND) : row[person];
    }

    public int set(int person, int what, int v) {
        int[] row = scene.rowOf(what);
        if (!isPerson(person) || row == null || what == WHAT_KIND || !isFrom(0, mostOf(what), v)) {
            return found(BEYOND);
        }
        int was = row[person];
        row[person] = v;
        return was;
    }

    public int turn(int person, int kind) {
        if (!isPerson(person) || !Kinds.isKind(kind)) {
            return found(BEYOND);
        }
        int was = scene.kinds[person];
        scene.kinds[person] = kind;
        return was;
    }

    public int as(int person, int kind) {
        if (!isPerson(person) || !Kinds.isKind(kind)) {
            return found(BEYOND);
        }
        if (!Kinds.isUnder(scene.kinds[person], kind)) {
            return found(KIND);
        }
        return scene.feet[person];
    }

    public int holds(int person, int other) {
        if (!isPair(person, other)) {
            return found(BEYOND);
        }
        return scene.holdsFor(person, other);
    }

    public int asks(int person, int other) {
        if (!isPair(person, other)) {
            return found(BEYOND);
        }
        return scene.isAsking(person, other) ? 1 : 0;
    }

    // ---- seconds

    public int seconds(int n) {
        if (!isFrom(1, MOST_GOING, n)) {
            return found(BEYOND);
        }
        if (scene.second > MOST_SECOND - n) {
            return found(STATE);
        }
        scene.goOn(n);
        return scene.setOfIn();
    }

    public int on(int person, int n, int what) {
        if (!isPerson(person) || !isFrom(0, MOST_ON, n) || !isFrom(0, 2, what)) {
            return found(BEYOND);
        }
        Scene later = freshTrial();
        later.goOn(n);
        int[] row = later.rowOf(WHAT_FEET + what);
        return row == null ? found(BEYOND) : row[person];
    }

    public int loose(int n) {
        if (!isFrom(0, MOST_ON, n)) {
            return found(BEYOND);
        }
        Scene later = freshTrial();
        later.goOn(n);
        return later.countLoose();
    }

    public int comes(int person) {
        if (!isPerson(person)) {
            return found(BEYOND);
        }
        return orNone(freshTrial().firstIn(person, MOST_ON));
    }

    public int shuts() {
        return orNone(freshTrial().firstShut(MOST_ON));
    }

    public int all() {
        return orNone(freshTrial().firstAllIn(MOST_ON));
    }

    // ---- what is best

    public int care(int n) {
        if (!isWeighed(n)) {
            return found(BEYOND);
        }
        int looseNow = scene.countLoose();
        for (int c = 0; c <= MOST_CARE; c++) {
            Scene later = freshTrial();
            later.care = c;
            later.goOn(n);
            if (later.countLoose() <= looseNow) {
                return c;
            }
        }
        return found(NONE);
    }

    public int kind(int person, int n) {
        if (!isPerson(person) || !isWeighed(n)) {
            return found(BEYOND);
        }
        int best = 0;
        int fewest = MOST_PEOPLE + 1;
        for (int k = 0; k < Kinds.KINDS; k++) {
            Scene later = freshTrial();
            later.kinds[person] = k;
            later.goOn(n);
            int loose = later.countLoose();
            if (loose < fewest) {
                fewest = loose;
                best = k;
            }
        }
        return best;
    }

    public int far(int person, int n) {
        if (!isPerson(person) || !isWeighed(n)) {
            return found(BEYOND);
        }
        for (int f = MOST_FAR; f >= 0; f--) {
            Scene later = freshTrial();
            later.feet[person] = f;
            if (later.firstIn(person, n) >= 0) {
                return f;
            }
        }
        return found(NONE);
    }

    public int order(int n) {
        if (!isWeighed(n)) {
            return found(BEYOND);
        }
        int best = -1;
        Scene asItIs = freshTrial();
        asItIs.goOn(n);
        int fewest = asItIs.countLoose();
        for (int a = 0; a < scene.people; a++) {
            for (int b = a + 1; b < scene.people; b++) {
                Scene later = freshTrial();
                later.changePlaces(a, b);
                later.goOn(n);
                int loose = later.countLoose();
                if (loose < fewest) {
                    fewest = loose;
                    best = 10 * a + b;
                }
            }
        }
        return orNone(best);
    }

    public int take(int n) {
        if (!isWeighed(n)) {
            return found(BEYOND);
        }
        int best = -1;
        int fewest = MOST_PEOPLE + 1;
        for (int p = 0; p < scene.people; p++) {
            if (scene.badges[p] == 1) {
                Scene later = freshTrial();
                later.badges[p] = 0;
                later.goOn(n);
                int in = later.sumOf(later.in);
                if (in < fewest) {
                    fewest = in;
                    best = p;
                }
            }
        }
        return orNone(best);
    }

    public int load(int person, int n) {
        if (!isPerson(person) || !isWeighed(n)) {
            return found(BEYOND);
        }
        for (int l = 0; l <= MOST_LOAD; l++) {
            Scene later = freshTrial();
            later.loads[person] = l;
            if (later.firstIn(person, n) >= 0) {
                return l;
            }
        }
        return found(NONE);
    }

    // ---- the text

    public int feed(int bytes, int n) {
        if (!isFrom(1, 4, n)) {
            return found(BEYOND);
        }
        if (text.length > MOST_BYTES - n) {
            return found(FULL);
        }
        text.append(bytes, n);
        return text.length;
    }

    public int wipe() {
        int had = text.length;
        text.length = 0;
        return had;
    }

    public int morning() {
        // The items go to a trial first: a fault further on must leave the scene as it was.
        Scene told = freshTrial();
        int items = text.tellTo(told);
        if (items >= 0) {
            scene.become(told);
        }
        text.length = 0;
        return items;
    }

    // ---- sheets

    public int sheet(int s, int bits, int n) {
        if (!isSheet(s) || !Sheet.isWidth(bits)) {
            return found(BEYOND);
        }
        if (n < 0) {
            return found(SIZE);
        }
        if (n > MOST_NUMBERS) {
            return found(BEYOND);
        }
        sheets[s].renew(bits, n);
        return sheets[s].size;
    }

    public long write(int s, int i, long v) {
        if (!isSheet(s)) {
            return found(BEYOND);
        }
        Sheet sheet = sheets[s];
        if (sheet.isMissing()) {
            return found(MISSING);
        }
        if (!isFrom(0, sheet.size - 1, i)) {
            return found(BEYOND);
        }
        long was = sheet.numbers[i];
        sheet.put(i, v);
        return was;
    }

    public int copy(int s, int from, int t, int to, int n) {
        if (!isSheet(s) || !isSheet(t)) {
            return found(BEYOND);
        }
        Sheet source = sheets[s];
        Sheet target = sheets[t];
        if (source.isMissing() || target.isMissing()) {
            return found(MISSING);
        }
        if (source.bits != target.bits) {
            return found(KIND);
        }
        if (!source.hasRun(from, n) || !target.hasRun(to, n)) {
            return found(BEYOND);
        }
        System.arraycopy(source.numbers, from, target.numbers, to, n);
        return n;
    }

    public int lays(int s) {
        if (!isSheet(s)) {
            return found(BEYOND);
        }
        Sheet sheet = sheets[s];
        if (sheet.isMissing()) {
            return found(MISSING);
        }
        int came = 0;
        int most = Math.min(sheet.size, scene.people);
        for (int i = 0; i < most; i++) {
            long number = sheet.numbers[i];
            if (number >= 0 && number <= MOST_FEET) {
                scene.feet[i] = (int) number;
                came++;
            }
        }
        return came;
    }

    public int book(int s, int person) {
        int fault = faultOfBook(s, person);
        if (fault != 0) {
            return found(fault);
        }
        Sheet sheet = sheets[s];
        Scene later = freshTrial();
        for (int i = 0; i < sheet.size; i++) {
            sheet.put(i, later.feet[person]);
            later.goOneSecond();
        }
        return sheet.size;
    }

    public int read(int s, int person) {
        int fault = faultOfBook(s, person);
        if (fault != 0) {
            return found(fault);
        }
        int pairs = 0;
        for (int k = 0; k < Kinds.KINDS; k++) {
            for (int l = 0; l <= MOST_LOAD; l++) {
                Scene later = freshTrial();
                later.kinds[person] = k;
                later.loads[person] = l;
                if (later.walksAs(sheets[s], person)) {
                    pairs++;
                }
            }
        }
        return pairs;
    }

    // ---- images

    public int image() {
        kept.become(scene);
        isKept = true;
        return 1;
    }

    public int undo() {
        if (!isKept) {
            return found(NONE);
        }
        scene.become(kept);
        return scene.people;
    }

    public int tear() {
        int was = isKept ? 1 : 0;
        isKept = false;
        return was;
    }

    public int count(int what) {
        switch (what) {
            case 0: return scene.people;
            case 1: return text.length;
            case 2: return scene.people - scene.sumOf(scene.badges);
            case 3: return scene.sumOf(scene.loads);
            default: return found(BEYOND);
        }
    }

    public int status(int which) {
        if (which == -1) {
            int sum = 0;
            for (int i = 0; i < FINDINGS; i++) {
                sum += findings[i];
            }
            return sum;
        }
        if (!isFrom(0, FINDINGS - 1, which)) {
            return found(BEYOND);
        }
        return findings[which];
    }

    // ---- what the acts share

    private int found(int finding) {
        int which = BEYOND - finding;
        if (isFrom(0, FINDINGS - 1, which)) {
            findings[which]++;
        }
        return finding;
    }

    private int orNone(int answer) {
        return answer < 0 ? found(NONE) : answer;
    }

    private Scene freshTrial() {
        trial.become(scene);
        return trial;
    }

    /** The finding that a book of one on a sheet has to tell, or 0. */
    private int faultOfBook(int s, int person) {
        if (!isSheet(s)) {
            return BEYOND;
        }
        if (sheets[s].isMissing()) {
            return MISSING;
        }
        return isPerson(person) ? 0 : BEYOND;
    }

    private boolean isPerson(int person) {
        return isFrom(0, scene.people - 1, person);
    }

    private boolean isPair(int person, int other) {
        return isPerson(person) && isPerson(other) && person != other;
    }

    private static boolean isSheet(int s) {
        return isFrom(0, SHEETS - 1, s);
    }

    private static boolean isWeighed(int n) {
        return isFrom(1, MOST_WEIGHED, n);
    }

    private static boolean isFrom(int least, int most, int v) {
        return v >= least && v <= most;
    }

    private static int mostOf(int what) {
        switch (what) {
            case WHAT_LOAD: return MOST_LOAD;
            case WHAT_FEET: return MOST_FEET;
            case WHAT_ASKED: return MOST_ASKED;
            default: return 1;
        }
    }

    /** What the kinds have of their own. */
    private static final class Kinds {
        static final int WORKER = 0;
        static final int NEW = 1;
        static final int OLD = 2;
        static final int STRANGER = 3;
        static final int TESTER = 4;
        static final int GUARD = 5;
        static final int KINDS = 6;

        private Kinds() {
        }

        static boolean isKind(int kind) {
            return kind >= 0 && kind < KINDS;
        }

        static int kindAbove(int kind) {
            switch (kind) {
                case NEW:
                case OLD:
                case STRANGER: return WORKER;
                case TESTER: return STRANGER;
                case GUARD: return OLD;
                default: return -1;
            }
        }

        static boolean isUnder(int kind, int above) {
            int k = kind;
            for (int i = 0; i < KINDS && k >= 0; i++) {
                if (k == above) {
                    return true;
                }
                k = kindAbove(k);
            }
            return false;
        }

        static String nameOf(int kind) {
            switch (kind) {
                case WORKER: return "worker";
                case NEW: return "new";
                case OLD: return "old";
                case STRANGER: return "stranger";
                case TESTER: return "tester";
                default: return "guard";
            }
        }

        static int goesOf(int kind, int load, boolean isOpen) {
            int feet;
            switch (kind) {
                case OLD:
                case GUARD: feet = 3; break;
                case STRANGER: feet = strangerGoes(load, isOpen); break;
                case TESTER: feet = strangerGoes(load, isOpen) - 1; break;
                default: feet = 4; break;
            }
            if (load >= 5) {
                feet--;
            }
            return Math.max(feet, 1);
        }

        private static int strangerGoes(int load, boolean isOpen) {
            if (!isOpen) {
                return 4;
            }
            return load > 0 ? 6 : 7;
        }

        static int holdsOf(int kind, int feet, int load, int badge) {
            int asWorker = feet >= 12 ? 0 : feet / 4 + 1;
            switch (kind) {
                case NEW: return load == 0 ? 0 : asWorker;
                case OLD: return asWorker + load;
                case STRANGER: return 9;
                case TESTER: return 0;
                case GUARD: return badge == 0 ? 0 : asWorker + load;
                default: return asWorker;
            }
        }

        static boolean asksOf(int kind, int care, int load) {
            switch (kind) {
                case NEW: return care >= 20;
                case OLD: return care >= 90;
                case STRANGER:
                case TESTER: return false;
                case GUARD: return care >= 10;
                default: return care >= 50 && load == 0;
            }
        }
    }

    /** The door and the people before it: all that an image keeps. */
    private static final class Scene {
        int second;
        int care;
        int open;
        int by;
        int people;
        final int[] kinds;
        final int[] badges;
        final int[] loads;
        final int[] feet;
        final int[] in;
        final int[] asked;

        Scene() {
            second = 0;
            care = 20;
            open = 0;
            by = NOBODY;
            people = 0;
            kinds = new int[MOST_PEOPLE];
            badges = new int[MOST_PEOPLE];
            loads = new int[MOST_PEOPLE];
            feet = new int[MOST_PEOPLE];
            in = new int[MOST_PEOPLE];
            asked = new int[MOST_PEOPLE];
        }

        void become(Scene other) {
            second = other.second;
            care = other.care;
            open = other.open;
            by = other.by;
            people = other.people;
            System.arraycopy(other.kinds, 0, kinds, 0, MOST_PEOPLE);
            System.arraycopy(other.badges, 0, badges, 0, MOST_PEOPLE);
            System.arraycopy(other.loads, 0, loads, 0, MOST_PEOPLE);
            System.arraycopy(other.feet, 0, feet, 0, MOST_PEOPLE);
            System.arraycopy(other.in, 0, in, 0, MOST_PEOPLE);
            System.arraycopy(other.asked, 0, asked, 0, MOST_PEOPLE);
        }

        boolean isFull() {
            return people >= MOST_PEOPLE;
        }

        /** One more; only where it isn't full. */
        int add(int kind, int feetOff) {
            int p = people;
            kinds[p] = kind;
            badges[p] = 1;
            loads[p] = 0;
            feet[p] = feetOff;
            in[p] = 0;
            asked[p] = 0;
            people++;
            return p;
        }

        int[] rowOf(int what) {
            switch (what) {
                case WHAT_KIND: return kinds;
                case WHAT_BADGE: return badges;
                case WHAT_LOAD: return loads;
                case WHAT_FEET: return feet;
                case WHAT_IN: return in;
                case WHAT_ASKED: return asked;
                default: return null;
            }
        }

        int sumOf(int[] row) {
            int sum = 0;
            for (int p = 0; p < people; p++) {
                sum += row[p];
            }
            return sum;
        }

        int setOfIn() {
            int bits = 0;
            for (int p = 0; p < people; p++) {
                bits |= in[p] << p;
            }
            return bits;
        }

        int setOfLoose() {
            int bits = 0;
            for (int p = 0; p < people; p++) {
                if (badges[p] == 0) {
                    bits |= in[p] << p;
                }
            }
            return bits;
        }

        int countLoose() {
            return Integer.bitCount(setOfLoose());
        }

        void changePlaces(int a, int b) {
            int feetOfA = feet[a];
            feet[a] = feet[b];
            feet[b] = feetOfA;
        }

        int goesNow(int p) {
            return Kinds.goesOf(kinds[p], loads[p], open > 0);
        }

        int holdsFor(int p, int other) {
            return Kinds.holdsOf(kinds[p], feet[other], loads[other], badges[other]);
        }

        boolean isAsking(int p, int other) {
            return Kinds.asksOf(kinds[p], care, loads[other]);
        }

        void goOn(int n) {
            for (int i = 0; i < n && !isAtRest(); i++) {
                goOneSecond();
            }
            second += n;
        }

        /** All of a second but its number, which goOn counts for those it needn't go through. */
        void goOneSecond() {
            walkAll();
            for (int p = 0; p < people; p++) {
                if (in[p] == 0 && feet[p] == 0) {
                    tryToEnter(p);
                }
            }
            if (open > 0) {
                open--;
            }
        }

        /** Shut, and all either in or waiting without a badge: no second changes this any more. */
        private boolean isAtRest() {
            if (open > 0) {
                return false;
            }
            for (int p = 0; p < people; p++) {
                if (in[p] == 0 && (feet[p] > 0 || badges[p] == 1)) {
                    return false;
                }
            }
            return true;
        }

        private void walkAll() {
            for (int p = 0; p < people; p++) {
                if (in[p] == 0) {
                    feet[p] = Math.max(feet[p] - goesNow(p), 0);
                }
            }
        }

        private void tryToEnter(int p) {
            if (open == 0) {
                if (badges[p] == 1) {
                    comeIn(p);
                }
                return;
            }
            if (isAskedByHolder(p)) {
                asked[p] = Math.min(asked[p] + 1, MOST_ASKED);
                if (badges[p] == 0) {
                    feet[p] = SENT_AWAY_FEET;
                    return;
                }
            }
            comeIn(p);
        }

        /** The one that holds may be the very one that comes, if it was set back outside: it asks itself then. */
        private boolean isAskedByHolder(int p) {
            return by >= 0 && by < people && isAsking(by, p);
        }

        private void comeIn(int p) {
            in[p] = 1;
            by = p;
            int next = nearestOutside();
            int holding = next < 0 ? 0 : holdsFor(p, next);
            open = Math.min(Math.max(open, holding), MOST_OPEN);
        }

        private int nearestOutside() {
            int nearest = NOBODY;
            int least = MOST_FEET + 1;
            for (int p = 0; p < people; p++) {
                if (in[p] == 0 && feet[p] < least) {
                    least = feet[p];
                    nearest = p;
                }
            }
            return nearest;
        }

        /** After how many seconds (most at most) one is in, or -1. */
        int firstIn(int p, int most) {
            for (int n = 0; n <= most; n++) {
                if (in[p] == 1) {
                    return n;
                }
                if (isAtRest()) {
                    return -1;
                }
                goOneSecond();
            }
            return -1;
        }

        int firstShut(int most) {
            for (int n = 0; n <= most; n++) {
                if (open == 0) {
                    return n;
                }
                goOneSecond();
            }
            return -1;
        }

        int firstAllIn(int most) {
            for (int n = 0; n <= most; n++) {
                if (sumOf(in) == people) {
                    return n;
                }
                if (isAtRest()) {
                    return -1;
                }
                goOneSecond();
            }
            return -1;
        }

        boolean walksAs(Sheet sheet, int p) {
            for (int i = 0; i < sheet.size; i++) {
                if (sheet.numbers[i] != feet[p]) {
                    return false;
                }
                goOneSecond();
            }
            return true;
        }
    }

    /** The tape, and the text of a morning that is read from it, a token ahead. */
    private static final class Text {
        private static final int END = 0;
        private static final int WORD = 1;
        private static final int NUMBER = 2;
        private static final int SIGN = 3;
        private static final int OTHER = 4;

        final byte[] tape;
        int length;
        private int token;
        private int start;
        private int place;
        private int number;

        Text() {
            tape = new byte[MOST_BYTES];
            length = 0;
            token = END;
            start = 0;
            place = 0;
            number = 0;
        }

        /** The n lowest bytes, the highest of these first; only where there is room for them. */
        void append(int bytes, int n) {
            for (int i = n - 1; i >= 0; i--) {
                tape[length] = (byte) (bytes >> (8 * i));
                length++;
            }
        }

        /** How many items a scene was told, or -1 less the place of the fault. */
        int tellTo(Scene scene) {
            place = 0;
            nextToken();
            for (int items = 1; items <= MOST_BYTES; items++) {
                int kind = kindNamed();
                boolean isTold = kind < 0 ? tellDoor(scene) : tellPerson(scene, kind);
                if (!isTold) {
                    return -1 - start;
                }
                if (token == END) {
                    return items;
                }
                if (token != SIGN) {
                    return -1 - start;
                }
                nextToken();
            }
            return -1 - start;
        }

        /** False if the token that it stands at can't stand there. */
        private boolean tellDoor(Scene scene) {
            if (isWord("care")) {
                if (!isNumberNext(MOST_CARE)) {
                    return false;
                }
                scene.care = number;
            } else if (isWord("open")) {
                if (!isNumberNext(MOST_OPEN)) {
                    return false;
                }
                scene.open = number;
            } else {
                return false;
            }
            nextToken();
            return true;
        }

        /** False as above; for one too many that token is the name of its kind, so it is asked before the number. */
        private boolean tellPerson(Scene scene, int kind) {
            if (scene.isFull() || !isNumberNext(MOST_FEET)) {
                return false;
            }
            int p = scene.add(kind, number);
            nextToken();
            if (isWord("load")) {
                if (!isNumberNext(MOST_LOAD)) {
                    return false;
                }
                scene.loads[p] = number;
                nextToken();
            }
            if (isWord("bare")) {
                scene.badges[p] = 0;
                nextToken();
            }
            return true;
        }

        private int kindNamed() {
            for (int k = 0; k < Kinds.KINDS; k++) {
                if (isWord(Kinds.nameOf(k))) {
                    return k;
                }
            }
            return -1;
        }

        /** Goes a token on: whether that is a number, and not above the most. */
        private boolean isNumberNext(int most) {
            nextToken();
            return token == NUMBER && number <= most;
        }

        private boolean isWord(String word) {
            int letters = word.length();
            if (token != WORD || place - start != letters) {
                return false;
            }
            for (int i = 0; i < letters; i++) {
                if (tape[start + i] != word.charAt(i)) {
                    return false;
                }
            }
            return true;
        }

        private void nextToken() {
            while (place < length && tape[place] == ' ') {
                place++;
            }
            start = place;
            if (place >= length) {
                token = END;
            } else if (isLetter(tape[place])) {
                token = WORD;
                passWord();
            } else if (isDigit(tape[place])) {
                token = NUMBER;
                passNumber();
            } else if (tape[place] == ';') {
                token = SIGN;
                place++;
            } else {
                token = OTHER;
            }
        }

        private void passWord() {
            while (place < length && isLetter(tape[place])) {
                place++;
            }
        }

        /** A number too great for any place is held just above the greatest, however long it is. */
        private void passNumber() {
            number = 0;
            while (place < length && isDigit(tape[place])) {
                number = Math.min(10 * number + tape[place] - '0', MOST_FEET + 1);
                place++;
            }
        }

        private static boolean isLetter(byte b) {
            return b >= 'a' && b <= 'z';
        }

        private static boolean isDigit(byte b) {
            return b >= '0' && b <= '9';
        }
    }

    /** A row of numbers of so many bits each, held with their signs; of 0 bits, it is missing. */
    private static final class Sheet {
        int bits;
        int size;
        final long[] numbers;

        Sheet() {
            bits = 0;
            size = 0;
            numbers = new long[MOST_NUMBERS];
        }

        static boolean isWidth(int bits) {
            return bits == 0 || bits == 8 || bits == 16 || bits == 64;
        }

        boolean isMissing() {
            return bits == 0;
        }

        void renew(int newBits, int n) {
            bits = newBits;
            size = newBits == 0 ? 0 : n;
            for (int i = 0; i < MOST_NUMBERS; i++) {
                numbers[i] = 0;
            }
        }

        void put(int i, long v) {
            switch (bits) {
                case 8: numbers[i] = (byte) v; break;
                case 16: numbers[i] = (short) v; break;
                default: numbers[i] = v; break;
            }
        }

        boolean hasRun(int from, int n) {
            return from >= 0 && n >= 0 && n <= size && from <= size - n;
        }
    }
}
