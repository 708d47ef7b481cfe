import java.util.ArrayList;
import java.util.List;
import java.util.function.ToIntFunction;
import java.util.regex.Matcher;
import java.util.regex.Pattern;

/**
 * The document once more, told another way: kinds are classes, people are objects, a scene is cloned for each
 * look ahead, no second is left out, and the text is cut into tokens by a pattern before it is read.
 */
final class Model {
    private static final int BEYOND = Due.BEYOND;

    static class Person {
        int kind;
        int badge = 1;
        int load = 0;
        int feet;
        int in = 0;
        int asked = 0;

        Person(int kind, int feet) {
            this.kind = kind;
            this.feet = feet;
        }

        Person twin() {
            Person p = new Person(kind, feet);
            p.badge = badge;
            p.load = load;
            p.in = in;
            p.asked = asked;
            return p;
        }

        int goes(boolean open) {
            return Math.max(1, Worker.of(kind).goes(open, load) - (load >= 5 ? 1 : 0));
        }
    }

    static class Worker {
        static Worker of(int kind) {
            return List.of(new Worker(), new New(), new Old(), new Stranger(), new Tester(), new Guard()).get(kind);
        }

        int goes(boolean open, int load) {
            return 4;
        }

        int holds(Person p) {
            return p.feet >= 12 ? 0 : p.feet / 4 + 1;
        }

        boolean asks(int c, Person p) {
            return c >= 50 && p.load == 0;
        }
    }

    static class New extends Worker {
        @Override int holds(Person p) {
            return p.load == 0 ? 0 : super.holds(p);
        }

        @Override boolean asks(int c, Person p) {
            return c >= 20;
        }
    }

    static class Old extends Worker {
        @Override int goes(boolean open, int load) {
            return 3;
        }

        @Override int holds(Person p) {
            return super.holds(p) + p.load;
        }

        @Override boolean asks(int c, Person p) {
            return c >= 90;
        }
    }

    static class Stranger extends Worker {
        @Override int goes(boolean open, int load) {
            return super.goes(open, load) + (!open ? 0 : load != 0 ? 2 : 3);
        }

        @Override int holds(Person p) {
            return 9;
        }

        @Override boolean asks(int c, Person p) {
            return false;
        }
    }

    static class Tester extends Stranger {
        @Override int goes(boolean open, int load) {
            return super.goes(open, load) - 1;
        }

        @Override int holds(Person p) {
            return 0;
        }
    }

    static class Guard extends Old {
        @Override int holds(Person p) {
            return p.badge == 0 ? 0 : super.holds(p);
        }

        @Override boolean asks(int c, Person p) {
            return c >= 10;
        }
    }

    static class Scene {
        int second = 0;
        int care = 20;
        int open = 0;
        Person by = null;
        List<Person> people = new ArrayList<>();

        Scene twin() {
            Scene t = new Scene();
            t.second = second;
            t.care = care;
            t.open = open;
            for (Person p : people) {
                Person q = p.twin();
                t.people.add(q);
                if (p == by) {
                    t.by = q;
                }
            }
            return t;
        }

        void second() {
            boolean wasOpen = open != 0;
            for (Person p : people) {
                if (p.in == 0) {
                    p.feet -= Math.min(p.feet, p.goes(wasOpen));
                }
            }
            for (Person p : people) {
                if (p.in == 0 && p.feet == 0) {
                    atTheDoor(p);
                }
            }
            open = Math.max(0, open - 1);
            second++;
        }

        private void atTheDoor(Person p) {
            boolean gets = open != 0 || p.badge == 1;
            if (open != 0 && by != null && Worker.of(by.kind).asks(care, p)) {
                p.asked = p.asked == 999 ? 999 : p.asked + 1;
                if (p.badge == 0) {
                    p.feet = 99;
                    gets = false;
                }
            }
            if (gets) {
                p.in = 1;
                by = p;
                Person next = people.stream().filter(q -> q.in == 0).reduce((a, b) -> b.feet < a.feet ? b : a).orElse(null);
                int held = next == null ? 0 : Worker.of(p.kind).holds(next);
                open = Math.min(60, held > open ? held : open);
            }
        }

        Scene on(int n) {
            Scene t = twin();
            for (int i = 0; i < n; i++) {
                t.second();
            }
            return t;
        }

        int loose() {
            return (int) people.stream().filter(p -> p.in == 1 && p.badge == 0).count();
        }

        int in() {
            return (int) people.stream().filter(p -> p.in == 1).count();
        }

        int sum(ToIntFunction<Person> of) {
            return people.stream().mapToInt(of).sum();
        }

        int set(java.util.function.Predicate<Person> is) {
            int bits = 0;
            for (int i = 0; i < people.size(); i++) {
                bits += is.test(people.get(i)) ? 1 << i : 0;
            }
            return bits;
        }
    }

    Scene now = new Scene();
    Scene kept = null;
    StringBuilder tape = new StringBuilder();
    Object[] sheets = new Object[4];
    int[] findings = new int[7];

    private int tells(int answer) {
        findings[BEYOND - answer]++;
        return answer;
    }

    private boolean one(int p) {
        return p >= 0 && p < now.people.size();
    }

    private static boolean within(int v, int a, int b) {
        return a <= v && v <= b;
    }

    int door(int what, int v) {
        if (!within(what, 0, 1) || !within(v, 0, what == 0 ? 99 : 60)) {
            return tells(BEYOND);
        }
        int was = what == 0 ? now.care : now.open;
        if (what == 0) {
            now.care = v;
        } else {
            now.open = v;
        }
        return was;
    }

    int now(int what) {
        if (!within(what, 0, 6)) {
            return tells(BEYOND);
        }
        int[] all = {now.second, now.care, now.open, now.people.indexOf(now.by), now.set(p -> p.in == 1),
            now.set(p -> p.in == 1 && p.badge == 0), now.sum(p -> p.asked)};
        return all[what];
    }

    int person(int kind, int feet) {
        if (!within(kind, 0, 5) || !within(feet, 0, 999)) {
            return tells(BEYOND);
        }
        if (now.people.size() == 8) {
            return tells(Due.FULL);
        }
        now.people.add(new Person(kind, feet));
        return now.people.size() - 1;
    }

    int of(int person, int what) {
        if (!one(person) || !within(what, 0, 6)) {
            return tells(BEYOND);
        }
        Person p = now.people.get(person);
        return new int[] {p.kind, p.badge, p.load, p.feet, p.in, p.asked, p.goes(now.open > 0)}[what];
    }

    int set(int person, int what, int v) {
        int[] most = {-1, 1, 9, 999, 1, 999};
        if (!one(person) || !within(what, 1, 5) || !within(v, 0, most[what])) {
            return tells(BEYOND);
        }
        int was = of(person, what);
        Person p = now.people.get(person);
        switch (what) {
            case 1 -> p.badge = v;
            case 2 -> p.load = v;
            case 3 -> p.feet = v;
            case 4 -> p.in = v;
            default -> p.asked = v;
        }
        return was;
    }

    int turn(int person, int kind) {
        if (!one(person) || !within(kind, 0, 5)) {
            return tells(BEYOND);
        }
        int was = now.people.get(person).kind;
        now.people.get(person).kind = kind;
        return was;
    }

    int as(int person, int kind) {
        if (!one(person) || !within(kind, 0, 5)) {
            return tells(BEYOND);
        }
        Person p = now.people.get(person);
        return Worker.of(kind).getClass().isInstance(Worker.of(p.kind)) ? p.feet : tells(Due.KIND);
    }

    int holds(int person, int other) {
        if (!one(person) || !one(other) || person == other) {
            return tells(BEYOND);
        }
        return Worker.of(now.people.get(person).kind).holds(now.people.get(other));
    }

    int asks(int person, int other) {
        if (!one(person) || !one(other) || person == other) {
            return tells(BEYOND);
        }
        return Worker.of(now.people.get(person).kind).asks(now.care, now.people.get(other)) ? 1 : 0;
    }

    int seconds(int n) {
        if (!within(n, 1, 200)) {
            return tells(BEYOND);
        }
        if (now.second + n > 999999) {
            return tells(Due.STATE);
        }
        now = now.on(n);
        return now(4);
    }

    int on(int person, int n, int what) {
        if (!one(person) || !within(n, 0, 400) || !within(what, 0, 2)) {
            return tells(BEYOND);
        }
        Person p = now.on(n).people.get(person);
        return what == 0 ? p.feet : what == 1 ? p.in : p.asked;
    }

    int loose(int n) {
        return within(n, 0, 400) ? now.on(n).loose() : tells(BEYOND);
    }

    private int first(java.util.function.Predicate<Scene> is) {
        Scene t = now.twin();
        for (int n = 0; n <= 400; n++) {
            if (is.test(t)) {
                return n;
            }
            t.second();
        }
        return tells(Due.NONE);
    }

    int comes(int person) {
        return one(person) ? first(t -> t.people.get(person).in == 1) : tells(BEYOND);
    }

    int shuts() {
        return first(t -> t.open == 0);
    }

    int all() {
        return first(t -> t.in() == t.people.size());
    }

    int care(int n) {
        if (!within(n, 1, 100)) {
            return tells(BEYOND);
        }
        for (int c = 0; c < 100; c++) {
            Scene t = now.twin();
            t.care = c;
            if (t.on(n).loose() <= now.loose()) {
                return c;
            }
        }
        return tells(Due.NONE);
    }

    int kind(int person, int n) {
        if (!one(person) || !within(n, 1, 100)) {
            return tells(BEYOND);
        }
        int[] loose = new int[6];
        for (int k = 0; k < 6; k++) {
            Scene t = now.twin();
            t.people.get(person).kind = k;
            loose[k] = t.on(n).loose();
        }
        return leastAt(loose);
    }

    private static int leastAt(int[] row) {
        int at = 0;
        for (int i = 0; i < row.length; i++) {
            at = row[i] < row[at] ? i : at;
        }
        return at;
    }

    int far(int person, int n) {
        if (!one(person) || !within(n, 1, 100)) {
            return tells(BEYOND);
        }
        int far = Due.NONE;
        for (int f = 0; f < 200; f++) {
            Scene t = now.twin();
            t.people.get(person).feet = f;
            if (t.on(n).people.get(person).in == 1) {
                far = f;
            }
        }
        return far < 0 ? tells(far) : far;
    }

    int order(int n) {
        if (!within(n, 1, 100)) {
            return tells(BEYOND);
        }
        int[] loose = new int[78];
        int asItIs = now.on(n).loose();
        java.util.Arrays.fill(loose, asItIs);
        for (int a = 0; a < now.people.size(); a++) {
            for (int b = a + 1; b < now.people.size(); b++) {
                Scene t = now.twin();
                t.people.get(a).feet = now.people.get(b).feet;
                t.people.get(b).feet = now.people.get(a).feet;
                loose[10 * a + b] = t.on(n).loose();
            }
        }
        int at = leastAt(loose);
        return loose[at] < asItIs ? at : tells(Due.NONE);
    }

    int take(int n) {
        if (!within(n, 1, 100)) {
            return tells(BEYOND);
        }
        if (now.sum(p -> p.badge) == 0) {
            return tells(Due.NONE);
        }
        int[] in = new int[now.people.size()];
        for (int p = 0; p < in.length; p++) {
            Scene t = now.twin();
            t.people.get(p).badge = 0;
            in[p] = now.people.get(p).badge == 0 ? 99 : t.on(n).in();
        }
        return leastAt(in);
    }

    int load(int person, int n) {
        if (!one(person) || !within(n, 1, 100)) {
            return tells(BEYOND);
        }
        for (int l = 0; l < 10; l++) {
            Scene t = now.twin();
            t.people.get(person).load = l;
            if (t.on(n).people.get(person).in == 1) {
                return l;
            }
        }
        return tells(Due.NONE);
    }

    int feed(int bytes, int n) {
        if (!within(n, 1, 4)) {
            return tells(BEYOND);
        }
        if (tape.length() + n > 120) {
            return tells(Due.FULL);
        }
        for (int i = 0; i < n; i++) {
            tape.append((char) (bytes >>> 8 * (n - 1 - i) & 255));
        }
        return tape.length();
    }

    int wipe() {
        int had = tape.length();
        tape.setLength(0);
        return had;
    }

    /** Finds the fault by asking how long a beginning of the tokens can still become a text. */
    int morning() {
        String text = tape.toString();
        tape.setLength(0);
        List<String> tokens = new ArrayList<>();
        List<Integer> places = new ArrayList<>();
        Matcher m = Pattern.compile("[a-z]+|[0-9]+|[^ ]", Pattern.DOTALL).matcher(text);
        while (m.find()) {
            tokens.add(m.group());
            places.add(m.start());
        }
        Scene t = now.twin();
        int items = 0;
        int at = 0;
        while (true) {
            int next = item(t, tokens, at);
            if (next < 0) {
                int fault = -1 - next;
                return -1 - (fault < tokens.size() ? places.get(fault) : text.length());
            }
            items++;
            if (next == tokens.size()) {
                now = t;
                return items;
            }
            if (!tokens.get(next).equals(";")) {
                return -1 - places.get(next);
            }
            at = next + 1;
        }
    }

    /** The token behind an item, or -1 less the token that can't stand there. */
    private static int item(Scene t, List<String> tokens, int at) {
        String word = at < tokens.size() ? tokens.get(at) : "";
        int kind = List.of("worker", "new", "old", "stranger", "tester", "guard").indexOf(word);
        if (word.equals("care") || word.equals("open")) {
            int v = number(tokens, at + 1, word.equals("care") ? 99 : 60);
            if (v < 0) {
                return -1 - (at + 1);
            }
            if (word.equals("care")) {
                t.care = v;
            } else {
                t.open = v;
            }
            return at + 2;
        }
        if (kind < 0 || t.people.size() == 8) {
            return -1 - at;
        }
        int feet = number(tokens, at + 1, 999);
        if (feet < 0) {
            return -1 - (at + 1);
        }
        Person p = new Person(kind, feet);
        t.people.add(p);
        int next = at + 2;
        if (next < tokens.size() && tokens.get(next).equals("load")) {
            p.load = number(tokens, next + 1, 9);
            if (p.load < 0) {
                return -1 - (next + 1);
            }
            next += 2;
        }
        if (next < tokens.size() && tokens.get(next).equals("bare")) {
            p.badge = 0;
            next++;
        }
        return next;
    }

    private static int number(List<String> tokens, int at, int most) {
        if (at >= tokens.size() || !tokens.get(at).matches("[0-9]+")) {
            return -1;
        }
        java.math.BigInteger v = new java.math.BigInteger(tokens.get(at));
        return v.compareTo(java.math.BigInteger.valueOf(most)) > 0 ? -1 : v.intValue();
    }

    private boolean noSheet(int s) {
        return !within(s, 0, 3);
    }

    int sheet(int s, int bits, int n) {
        if (noSheet(s) || !List.of(0, 8, 16, 64).contains(bits)) {
            return tells(BEYOND);
        }
        if (n < 0) {
            return tells(Due.SIZE);
        }
        if (n > 40) {
            return tells(BEYOND);
        }
        sheets[s] = bits == 0 ? null : bits == 8 ? new byte[n] : bits == 16 ? new short[n] : new long[n];
        return bits == 0 ? 0 : n;
    }

    private int size(int s) {
        return java.lang.reflect.Array.getLength(sheets[s]);
    }

    private long get(int s, int i) {
        return java.lang.reflect.Array.getLong(sheets[s], i);
    }

    private void put(int s, int i, long v) {
        if (sheets[s] instanceof byte[] row) {
            row[i] = (byte) v;
        } else if (sheets[s] instanceof short[] row) {
            row[i] = (short) v;
        } else {
            ((long[]) sheets[s])[i] = v;
        }
    }

    long write(int s, int i, long v) {
        if (noSheet(s)) {
            return tells(BEYOND);
        }
        if (sheets[s] == null) {
            return tells(Due.MISSING);
        }
        if (!within(i, 0, size(s) - 1)) {
            return tells(BEYOND);
        }
        long was = get(s, i);
        put(s, i, v);
        return was;
    }

    int copy(int s, int from, int t, int to, int n) {
        if (noSheet(s) || noSheet(t)) {
            return tells(BEYOND);
        }
        if (sheets[s] == null || sheets[t] == null) {
            return tells(Due.MISSING);
        }
        if (sheets[s].getClass() != sheets[t].getClass()) {
            return tells(Due.KIND);
        }
        if (from < 0 || to < 0 || n < 0 || (long) from + n > size(s) || (long) to + n > size(t)) {
            return tells(BEYOND);
        }
        long[] were = new long[n];
        for (int i = 0; i < n; i++) {
            were[i] = get(s, from + i);
        }
        for (int i = 0; i < n; i++) {
            put(t, to + i, were[i]);
        }
        return n;
    }

    int lays(int s) {
        if (noSheet(s)) {
            return tells(BEYOND);
        }
        if (sheets[s] == null) {
            return tells(Due.MISSING);
        }
        int came = 0;
        for (int i = 0; i < size(s); i++) {
            if (i < now.people.size() && get(s, i) >= 0 && get(s, i) <= 999) {
                now.people.get(i).feet = (int) get(s, i);
                came++;
            }
        }
        return came;
    }

    int book(int s, int person) {
        if (noSheet(s)) {
            return tells(BEYOND);
        }
        if (sheets[s] == null) {
            return tells(Due.MISSING);
        }
        if (!one(person)) {
            return tells(BEYOND);
        }
        for (int i = 0; i < size(s); i++) {
            put(s, i, now.on(i).people.get(person).feet);
        }
        return size(s);
    }

    int read(int s, int person) {
        if (noSheet(s)) {
            return tells(BEYOND);
        }
        if (sheets[s] == null) {
            return tells(Due.MISSING);
        }
        if (!one(person)) {
            return tells(BEYOND);
        }
        int pairs = 0;
        for (int pair = 0; pair < 60; pair++) {
            Scene t = now.twin();
            t.people.get(person).kind = pair / 10;
            t.people.get(person).load = pair % 10;
            boolean same = true;
            for (int i = 0; i < size(s); i++) {
                same &= t.people.get(person).feet == get(s, i);
                t.second();
            }
            pairs += same ? 1 : 0;
        }
        return pairs;
    }

    int image() {
        kept = now.twin();
        return 1;
    }

    int undo() {
        if (kept == null) {
            return tells(Due.NONE);
        }
        now = kept.twin();
        return now.people.size();
    }

    int tear() {
        int was = kept == null ? 0 : 1;
        kept = null;
        return was;
    }

    int count(int what) {
        if (!within(what, 0, 3)) {
            return tells(BEYOND);
        }
        return new int[] {now.people.size(), tape.length(), now.sum(p -> 1 - p.badge), now.sum(p -> p.load)}[what];
    }

    int status(int which) {
        if (!within(which, -1, 6)) {
            return tells(BEYOND);
        }
        return which == -1 ? java.util.Arrays.stream(findings).sum() : findings[which];
    }
}
