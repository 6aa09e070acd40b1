import java.util.ArrayList;
import java.util.Arrays;
import java.util.List;
import java.util.function.Consumer;
import java.util.regex.Matcher;
import java.util.regex.Pattern;

/** The document said once more, as plainly and as unlike the class as can be: people are objects of classes that
 *  extend each other, all that is asked is done with a copy, a text is told by a pattern and read by cutting it. */
final class Model {
    static final int NONE = -1, BAD = -2, STATE = -3, FULL = -4, MISSING = -5;
    static final long NO = Long.MIN_VALUE;

    // ---- people

    private static class Person implements Cloneable {
        int number;
        int v;
        int door;
        int hopes;
        int said;
        int[] row = new int[4];

        int kind() {
            return 0;
        }

        int reach(World w) {
            return Math.max(0, w.far() - w.weight / 8);
        }

        /** Of the others, as they come. */
        Person to(World w) {
            Person best = null;
            for (Person other : w.others(this)) {
                if (best == null || way(other) < way(best)) {
                    best = other;
                }
            }
            return best;
        }

        int way(Person other) {
            return door > other.door ? door - other.door : other.door - door;
        }

        int waits(List<Integer> ran, int x) {
            ran.add(10);
            return x + number;
        }

        int tells(List<Integer> ran, int x) {
            ran.add(11);
            return waits(ran, x) - v;
        }

        int hopes(List<Integer> ran, int x) {
            ran.add(12);
            return tells(ran, x) * 2;
        }

        Person copy() {
            try {
                Person copy = (Person) clone();
                copy.row = row.clone();
                return copy;
            } catch (CloneNotSupportedException never) {
                throw new IllegalStateException(never);
            }
        }
    }

    private static class Old extends Person {
        @Override int kind() {
            return 1;
        }

        @Override int reach(World w) {
            return Math.max(0, super.reach(w) - v / 2);
        }

        @Override int tells(List<Integer> ran, int x) {
            ran.add(20);
            return super.tells(ran, x) ^ 6;
        }
    }

    private static class Child extends Person {
        @Override int kind() {
            return 2;
        }

        @Override int reach(World w) {
            return super.reach(w) + 2;
        }

        @Override Person to(World w) {
            List<Person> within = new ArrayList<>(w.others(this));
            within.removeIf(other -> way(other) > reach(w));
            if (within.isEmpty()) {
                return super.to(w);
            }
            int longest = within.stream().mapToInt(this::way).max().getAsInt();
            return within.stream().filter(other -> way(other) == longest).findFirst().get();
        }

        @Override int waits(List<Integer> ran, int x) {
            ran.add(30);
            return super.waits(ran, x * 3);
        }
    }

    private static class Sly extends Person {
        @Override int kind() {
            return 3;
        }

        @Override Person to(World w) {
            List<Person> others = w.others(this);
            int most = others.stream().mapToInt(other -> other.hopes).max().orElse(-1);
            return others.stream().filter(other -> other.hopes == most).findFirst().orElse(null);
        }

        @Override int hopes(List<Integer> ran, int x) {
            ran.add(40);
            return super.hopes(ran, x) + tells(ran, 1);
        }
    }

    private static class Weary extends Old {
        @Override int kind() {
            return 4;
        }

        @Override int reach(World w) {
            return super.reach(w) / 2;
        }

        @Override int waits(List<Integer> ran, int x) {
            ran.add(50);
            return -super.waits(ran, x);
        }

        @Override int tells(List<Integer> ran, int x) {
            ran.add(51);
            return super.tells(ran, x + 1);
        }
    }

    private static class Dreadful extends Child {
        @Override int kind() {
            return 5;
        }

        @Override int reach(World w) {
            return w.step % (v + 2) == 0 ? 0 : super.reach(w);
        }

        @Override int hopes(List<Integer> ran, int x) {
            ran.add(60);
            return super.hopes(ran, x - number);
        }
    }

    private static class Told extends Sly {
        @Override int kind() {
            return 6;
        }

        @Override int reach(World w) {
            return super.reach(w) + row[w.step % 4];
        }

        @Override int tells(List<Integer> ran, int x) {
            ran.add(70);
            return super.tells(ran, x) + super.waits(ran, 2);
        }

        @Override int waits(List<Integer> ran, int x) {
            ran.add(71);
            return super.waits(ran, x) ^ v;
        }
    }

    private static final List<Class<? extends Person>> KINDS =
            List.of(Person.class, Old.class, Child.class, Sly.class, Weary.class, Dreadful.class, Told.class);

    private static Person born(int kind) {
        switch (kind) {
            case 1: return new Old();
            case 2: return new Child();
            case 3: return new Sly();
            case 4: return new Weary();
            case 5: return new Dreadful();
            case 6: return new Told();
            default: return new Person();
        }
    }

    // ---- all that THE IMAGE holds

    private static final class World {
        List<Person> people = new ArrayList<>();
        Person with;
        Person last;
        int weight;
        int step;
        String evening = "";
        List<int[]> seen = new ArrayList<>();
        List<int[]> game = new ArrayList<>();
        List<int[]> book = new ArrayList<>();

        World copy() {
            World w = new World();
            for (Person p : people) {
                Person q = p.copy();
                w.people.add(q);
                if (p == with) {
                    w.with = q;
                }
                if (p == last) {
                    w.last = q;
                }
            }
            w.weight = weight;
            w.step = step;
            w.evening = evening;
            w.seen.addAll(seen);
            w.game.addAll(game);
            w.book.addAll(book);
            return w;
        }

        List<Person> others(Person p) {
            List<Person> others = new ArrayList<>(people);
            others.remove(p);
            return others;
        }

        boolean has(int p) {
            return p >= 0 && p < people.size();
        }

        void hand(int p) {
            with = people.get(p);
            last = null;
        }

        private int lastOne(String word, int without) {
            int n = without;
            for (String clause : evening.split(";")) {
                String[] parts = clause.split(" ");
                if (parts[0].equals(word)) {
                    n = Integer.parseInt(parts[1]);
                }
            }
            return n;
        }

        int far() {
            return lastOne("far", 12);
        }

        int cost() {
            return lastOne("cost", 5);
        }

        int rain(Person p) {
            int rain = 0;
            for (String clause : evening.split(";")) {
                String[] parts = clause.split(" ");
                if (parts.length == 3 && holds(parts[2], p)) {
                    rain += (parts[0].equals("rain") ? 1 : -1) * Integer.parseInt(parts[1]);
                }
            }
            return rain;
        }

        /** Cut at the first | that stands in no (; if there is none, at the first &. */
        private boolean holds(String e, Person p) {
            for (char between : new char[] {'|', '&'}) {
                int within = 0;
                for (int at = 0; at < e.length(); at++) {
                    char c = e.charAt(at);
                    within += c == '(' ? 1 : c == ')' ? -1 : 0;
                    if (within == 0 && c == between) {
                        boolean left = holds(e.substring(0, at), p);
                        boolean right = holds(e.substring(at + 1), p);
                        return between == '|' ? left || right : left && right;
                    }
                }
            }
            if (e.charAt(0) == '!') {
                return !holds(e.substring(1), p);
            }
            if (e.charAt(0) == '(') {
                return holds(e.substring(1, e.length() - 1), p);
            }
            int fact = fact(e.charAt(0), p);
            int n = Integer.parseInt(e.substring(2));
            char relation = e.charAt(1);
            return relation == '<' ? fact < n : relation == '=' ? fact == n : fact > n;
        }

        private int fact(char letter, Person p) {
            switch (letter) {
                case 'p': return p.number;
                case 'k': return p.kind();
                case 'd': return p.door;
                case 'h': return p.hopes;
                case 'w': return weight / 10;
                case 's': return step % 10;
                default: throw new IllegalStateException("letter " + letter);
            }
        }

        int go() {
            if (last != null || people.size() < 2) {
                return STATE;
            }
            Person p = with;
            Person q = p.to(this);
            if (p.way(q) <= p.reach(this)) {
                int heavier = weight + rain(p);
                with = q;
                weight = heavier < 0 ? 0 : heavier > 999 ? 999 : heavier;
                step++;
                return 0;
            }
            step++;
            if (p.hopes == 0) {
                last = p;
                return 2;
            }
            p.hopes--;
            p.said++;
            weight = Math.min(999, weight + cost());
            return 1;
        }

        World go(int n) {
            for (int k = 0; k < n; k++) {
                go();
            }
            return this;
        }

        int ends() {
            for (int n = 0; n <= 99; n++) {
                if (copy().go(n).last != null) {
                    return n;
                }
            }
            return MISSING;
        }

        /** Later than any that ends by 99. */
        int late() {
            int ends = ends();
            return ends == MISSING ? 1000 : ends;
        }

        boolean isSeen() {
            for (int[] row : seen) {
                Person then = copy().go(row[1]).with;
                if (then == null || then.number != row[0]) {
                    return false;
                }
            }
            return true;
        }

        int holder() {
            return with == null ? MISSING : with.number;
        }

        int lastOne() {
            return last == null ? MISSING : last.number;
        }
    }

    private World now = new World();
    private World image;
    private String text = "";
    private int evenings;
    private List<Integer> ran = new ArrayList<>();
    private final Object[] tapes = new Object[6];

    private World asked(Consumer<World> were) {
        World w = now.copy();
        were.accept(w);
        return w;
    }

    // ---- people, evenings, the bucket

    int person(int kind, int v, int door, int hopes) {
        if (kind < 0 || kind > 6) {
            return NONE;
        }
        if (v < 0 || v > 9 || door < 0 || door > 19 || hopes < 0 || hopes > 9) {
            return BAD;
        }
        if (now.people.size() == 6) {
            return FULL;
        }
        Person p = born(kind);
        p.number = now.people.size();
        p.v = v;
        p.door = door;
        p.hopes = hopes;
        now.people.add(p);
        if (now.with == null) {
            now.with = p;
        }
        return p.number;
    }

    int of(int person, int what) {
        if (!now.has(person) || what < 0 || what > 7) {
            return -1001;
        }
        Person p = now.people.get(person);
        Person to = p.to(now);
        return new int[] {p.kind(), p.v, p.door, p.hopes, p.said, p.reach(now), to == null ? MISSING : to.number,
            now.rain(p)}[what];
    }

    int set(int person, int what, int n) {
        if (!now.has(person) || what < 0 || what > 1) {
            return NONE;
        }
        if (n < 0 || n > (what == 0 ? 19 : 9)) {
            return BAD;
        }
        Person p = now.people.get(person);
        int was = what == 0 ? p.door : p.hopes;
        if (what == 0) {
            p.door = n;
        } else {
            p.hopes = n;
        }
        return was;
    }

    int row(int person, int part, int n) {
        if (!now.has(person) || part < 0 || part > 3) {
            return NONE;
        }
        if (n < 0 || n > 9) {
            return BAD;
        }
        if (!(now.people.get(person) instanceof Told)) {
            return STATE;
        }
        int was = now.people.get(person).row[part];
        now.people.get(person).row[part] = n;
        return was;
    }

    int with(int person) {
        if (!now.has(person)) {
            return NONE;
        }
        int was = now.holder();
        now.hand(person);
        return was;
    }

    int weight(int n) {
        if (n < 0 || n > 999) {
            return BAD;
        }
        int was = now.weight;
        now.weight = n;
        return was;
    }

    int feed(int sign) {
        if (sign < 0 || sign > 127) {
            return BAD;
        }
        if (text.length() == 100) {
            return FULL;
        }
        text += (char) sign;
        return text.length();
    }

    private static final Pattern EVENING = pattern();

    private static Pattern pattern() {
        String test = "[pkdhws][<=>]\\d\\d?";
        String f = test;
        for (int depth = 0; depth < 4; depth++) {
            String e = "(?:" + f + "(?:[&|]" + f + ")*+)";
            f = "(?:" + test + "|!" + f + "|\\(" + e + "\\))";
        }
        String e = f + "(?:[&|]" + f + ")*+";
        String clause = "(?:(?:rain|dry) \\d\\d? " + e + "|(?:far|cost) \\d\\d?)";
        return Pattern.compile(clause + "(?:;" + clause + "){0,9}+");
    }

    /** Whether an EVENING is so, or can begin so. */
    static boolean beginsSo(String text) {
        Matcher m = EVENING.matcher(text);
        return m.matches() || m.hitEnd();
    }

    /** The FAULT; below 0: there is none. */
    static int fault(String text) {
        for (int at = 0; at < text.length(); at++) {
            if (!beginsSo(text.substring(0, at + 1))) {
                return at;
            }
        }
        return EVENING.matcher(text).matches() ? -1 : text.length();
    }

    int evening() {
        if (evenings == 6) {
            return FULL;
        }
        String told = text;
        text = "";
        int fault = fault(told);
        if (fault >= 0) {
            return -10 - fault;
        }
        now.evening = told;
        return evenings++;
    }

    int told(int what) {
        if (what < 0 || what > 5) {
            return NONE;
        }
        return new int[] {now.step, now.holder(), now.weight, now.lastOne(), now.far(), now.cost()}[what];
    }

    // ---- steps

    int step() {
        return now.step == 9999 ? STATE : now.go();
    }

    int on(int n, int what) {
        boolean isOfOne = what >= 10 && what < 10 + now.people.size() || what >= 20 && what < 20 + now.people.size();
        if (!isOfOne && (what < 0 || what > 2)) {
            return NONE;
        }
        if (n < 0 || n > 99) {
            return BAD;
        }
        World w = now.copy().go(n);
        if (what >= 20) {
            return w.people.get(what - 20).said;
        }
        if (what >= 10) {
            return w.people.get(what - 10).hopes;
        }
        return new int[] {w.holder(), w.weight, w.lastOne()}[what];
    }

    int ends() {
        return now.ends();
    }

    int longest() {
        int best = MISSING;
        int latest = -1;
        for (int p = 0; p < now.people.size(); p++) {
            int start = p;
            int late = asked(w -> w.hand(start)).late();
            if (late > latest) {
                latest = late;
                best = p;
            }
        }
        return best;
    }

    // ---- what is best

    int stand(int person, int n, int what) {
        if (!now.has(person) || what < 0 || what > 1) {
            return NONE;
        }
        if (n < 1 || n > 60) {
            return BAD;
        }
        int[] tells = new int[20];
        for (int d = 0; d < 20; d++) {
            int door = d;
            tells[d] = asked(w -> w.people.get(person).door = door).go(n).people.get(person).said
                    - now.people.get(person).said;
        }
        int least = Arrays.stream(tells).min().getAsInt();
        int door = 0;
        while (tells[door] != least) {
            door++;
        }
        return what == 0 ? door : least;
    }

    int needs(int person, int n) {
        if (!now.has(person)) {
            return NONE;
        }
        if (n < 1 || n > 60) {
            return BAD;
        }
        for (int h = 0; h <= 9; h++) {
            int hopes = h;
            World w = asked(v -> v.people.get(person).hopes = hopes).go(n);
            if (w.lastOne() != person) {
                return h;
            }
        }
        return MISSING;
    }

    int heavy(int person) {
        if (!now.has(person)) {
            return NONE;
        }
        World w = now.copy();
        w.hand(person);
        Person p = w.with;
        for (w.weight = 999; w.weight >= 0; w.weight--) {
            Person to = p.to(w);
            if (to != null && p.way(to) <= p.reach(w)) {
                return w.weight;
            }
        }
        return MISSING;
    }

    int change() {
        int latest = now.late();
        int best = MISSING;
        for (int a = 0; a < now.people.size(); a++) {
            for (int b = a + 1; b < now.people.size(); b++) {
                World w = now.copy();
                int door = w.people.get(a).door;
                w.people.get(a).door = w.people.get(b).door;
                w.people.get(b).door = door;
                if (w.late() > latest) {
                    latest = w.late();
                    best = 10 * a + b;
                }
            }
        }
        return best;
    }

    int mute(int n) {
        if (n < 1 || n > 60) {
            return BAD;
        }
        int bits = 0;
        for (int p = 0; p < now.people.size(); p++) {
            boolean tells = false;
            for (int start = 0; start < now.people.size(); start++) {
                World w = now.copy();
                w.hand(start);
                tells |= w.go(n).people.get(p).said > now.people.get(p).said;
            }
            bits += tells ? 0 : 1 << p;
        }
        return bits;
    }

    // ---- seen, odds

    private static int comes(List<int[]> rows, int most, int a, int b) {
        if (rows.size() == most) {
            return FULL;
        }
        rows.add(new int[] {a, b});
        return rows.size();
    }

    int see(int person, int n) {
        if (person == -1) {
            now.seen.clear();
            return 0;
        }
        return !now.has(person) ? NONE : n < 0 || n > 60 ? BAD : comes(now.seen, 6, person, n);
    }

    int from() {
        int bits = 0;
        for (int p = 0; p < now.people.size(); p++) {
            int start = p;
            bits += asked(w -> w.hand(start)).isSeen() ? 1 << p : 0;
        }
        return bits;
    }

    int had(int person, int what) {
        if (!now.has(person) || what < 0 || what > 1) {
            return NONE;
        }
        List<Integer> can = new ArrayList<>();
        for (int h = 0; h <= 9; h++) {
            int hopes = h;
            if (asked(w -> w.people.get(person).hopes = hopes).isSeen()) {
                can.add(h);
            }
        }
        return what == 0 ? can.size() : can.isEmpty() ? MISSING : can.get(0);
    }

    private static long fraction(long above, long below, int part) {
        long common = java.math.BigInteger.valueOf(above).gcd(java.math.BigInteger.valueOf(below)).longValue();
        return (part == 0 ? above : below) / common;
    }

    long odds(int n, int part) {
        if (n < 0 || n > 99 || part < 0 || part > 1 || now.people.isEmpty()) {
            return NO;
        }
        int ended = 0;
        for (int p = 0; p < now.people.size(); p++) {
            int start = p;
            ended += asked(w -> w.hand(start)).go(n).last != null ? 1 : 0;
        }
        return fraction(ended, now.people.size(), part);
    }

    long mean(int n, int part) {
        if (n < 1 || n > 60 || part < 0 || part > 1) {
            return NO;
        }
        long together = 0;
        for (int behind = 1; behind <= n; behind++) {
            together += now.copy().go(behind).weight;
        }
        return fraction(together, n, part);
    }

    // ---- games, books

    int game(int what, int person) {
        if (what == -1) {
            now.game.clear();
            return 0;
        }
        return what < 0 || what > 2 || what == 2 && !now.has(person) ? NONE : comes(now.game, 10, what, person);
    }

    int gone(int what) {
        if (what < 0 || what > 2) {
            return NONE;
        }
        World w = now.copy();
        for (int[] row : now.game) {
            if (row[0] == 0) {
                w.go();
            } else if (row[0] == 1) {
                w.weight = Math.min(999, w.weight + 10);
            } else {
                w.hand(row[1]);
            }
        }
        return new int[] {w.holder(), w.weight, w.lastOne()}[what];
    }

    int book(int person, int said) {
        if (person == -1) {
            now.book.clear();
            return 0;
        }
        return !now.has(person) ? NONE : said < 0 || said > 9999 ? BAD : comes(now.book, 8, person, said);
    }

    int looked() {
        for (int[] row : now.book) {
            if (now.people.get(row[0]).said != row[1]) {
                return now.book.indexOf(row);
            }
        }
        return MISSING;
    }

    // ---- judging, the image, acts, tapes: as a host's own rows refuse

    int judge(int tape, int i) {
        if (tape < 0 || tape > 5) {
            return NONE;
        }
        if (tapes[tape] != null && !(tapes[tape] instanceof byte[])) {
            return -12;
        }
        byte[] row = (byte[]) tapes[tape];
        int looked = 0;
        try {
            for (Person p : now.people) {
                if (row[i + looked] != p.hopes) {
                    return looked;
                }
                looked++;
            }
            return MISSING;
        } catch (NullPointerException | ArrayIndexOutOfBoundsException end) {
            return 100 + looked;
        }
    }

    int image() {
        image = now.copy();
        return now.people.size();
    }

    int undo() {
        if (image == null) {
            return STATE;
        }
        now = image.copy();
        return now.people.size();
    }

    int act(int person, int act, int x) {
        ran = new ArrayList<>();
        if (!now.has(person) || act < 0 || act > 2) {
            return 0;
        }
        Person p = now.people.get(person);
        return act == 0 ? p.waits(ran, x) : act == 1 ? p.tells(ran, x) : p.hopes(ran, x);
    }

    int trace(int i) {
        return i < 0 || i >= Math.min(20, ran.size()) ? NONE : ran.get(i);
    }

    int taken(int person, int k) {
        if (k < 0 || k > 6) {
            return BAD;
        }
        if (!now.has(person)) {
            return -11;
        }
        try {
            KINDS.get(k).cast(now.people.get(person));
            return now.people.get(person).kind();
        } catch (ClassCastException refused) {
            return -12;
        }
    }

    int count(int what) {
        if (what < 0 || what > 6) {
            return BAD;
        }
        return new int[] {now.people.size(), evenings, now.seen.size(), now.game.size(), now.book.size(),
            text.length(), ran.size()}[what];
    }

    int tape(int tape, int sort, int n) {
        if (tape < 0 || tape > 5) {
            return NONE;
        }
        if (sort < -1 || sort > 4 || sort != -1 && n > 60) {
            return BAD;
        }
        try {
            tapes[tape] = sort == -1 ? null : sort == 0 ? new byte[n] : sort == 1 ? new short[n]
                    : sort == 2 ? new int[n] : sort == 3 ? new long[n] : new boolean[n];
            return 1;
        } catch (NegativeArraySizeException refused) {
            return -14;
        }
    }

    int item(int tape, int i, long v) {
        if (tape < 0 || tape > 5) {
            return NONE;
        }
        Object row = tapes[tape];
        if (row == null) {
            return -11;
        }
        try {
            if (row instanceof byte[] bytes) {
                bytes[i] = (byte) v;
            } else if (row instanceof short[] shorts) {
                shorts[i] = (short) v;
            } else if (row instanceof int[] ints) {
                ints[i] = (int) v;
            } else if (row instanceof long[] longs) {
                longs[i] = v;
            } else {
                ((boolean[]) row)[i] = v != 0;
            }
            return 1;
        } catch (ArrayIndexOutOfBoundsException refused) {
            return -13;
        }
    }

    long read(int tape, int i) {
        if (tape < 0 || tape > 5 || tapes[tape] == null || i < 0 || i >= java.lang.reflect.Array.getLength(tapes[tape])) {
            return NO;
        }
        return tapes[tape] instanceof boolean[] booleans ? booleans[i] ? 1 : 0
                : java.lang.reflect.Array.getLong(tapes[tape], i);
    }

    int shift(int tape, int i, int other, int j, int n) {
        if (tape < 0 || tape > 5 || other < 0 || other > 5) {
            return NONE;
        }
        try {
            System.arraycopy(tapes[tape], i, tapes[other], j, n);
            return n;
        } catch (NullPointerException refused) {
            return -11;
        } catch (ArrayStoreException refused) {
            return -12;
        } catch (IndexOutOfBoundsException refused) {
            return -13;
        }
    }
}
