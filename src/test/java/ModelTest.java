import java.util.Random;

/** Every promise: long runs of calls, right ones and wrong ones, each answer against the Model's.
 *  The first argument is the source's path (not looked at), the second how many runs. */
public final class ModelTest {
    private static final int CALLS = 512;
    private final Random random;
    private final LastAtPump x = new LastAtPump();
    private final Model m = new Model();
    private final String run;
    private int calls;

    private ModelTest(int run) {
        this.run = "run " + run + ", call ";
        random = new Random(run);
    }

    public static void main(String[] args) {
        int runs = args.length > 1 ? Integer.parseInt(args[1]) : 500;
        patternsFaults();
        for (int run = 0; run < runs; run++) {
            new ModelTest(run).run();
        }
        Due.end();
    }

    /** The Model's pattern itself, by some texts. */
    private static void patternsFaults() {
        Due.is("empty", Model.fault(""), 0);
        Due.is("depth", Model.fault("dry 1 (((((p=1)))))"), 10);
        Due.is("depth of !", Model.fault("dry 1 !!!!!p=1"), 10);
        Due.is("early", Model.fault("far 1;"), 6);
        Due.is("clauses", Model.fault("far 1;far 1;far 1;far 1;far 1;far 1;far 1;far 1;far 1;far 1;far 1"), 59);
        Due.is("none", Model.fault("dry 1 !(!(p=1|k=2)&s<9);cost 07"), -1);
    }

    private void run() {
        // Some runs ask much of few people; in all there are some wrong calls.
        int people = random.nextInt(7);
        int wrong = random.nextInt(5) == 0 ? 3 : 12;
        while (calls < CALLS - 110) {
            if (m.count(0) < people && random.nextInt(3) == 0) {
                newPerson();
            }
            switch (random.nextInt(20)) {
                case 0:
                    text();
                    break;
                case 1:
                    everythingOfPeople();
                    break;
                default:
                    one(random.nextInt(39), wrong);
                    break;
            }
        }
    }

    private void is(String call, long got, long due) {
        Due.is(run + calls + ": " + call, got, due);
        calls++;
    }

    /** Mostly from least to most, else near that, or anything. */
    private int n(int least, int most, int wrong) {
        if (random.nextInt(wrong) != 0) {
            return least + random.nextInt(most - least + 1);
        }
        switch (random.nextInt(6)) {
            case 0: return least - 1;
            case 1: return most + 1;
            case 2: return least - 2 - random.nextInt(9);
            case 3: return Integer.MIN_VALUE + random.nextInt(2);
            case 4: return Integer.MAX_VALUE - random.nextInt(2);
            default: return random.nextInt();
        }
    }

    private int one(int wrong) {
        int people = Math.max(1, m.count(0));
        return n(0, people - 1, wrong);
    }

    private void newPerson() {
        int kind = random.nextInt(7);
        int v = random.nextInt(10);
        int door = random.nextInt(20);
        int hopes = random.nextInt(10);
        is("person", x.person(kind, v, door, hopes), m.person(kind, v, door, hopes));
    }

    private void everythingOfPeople() {
        for (int p = 0; p < m.count(0); p++) {
            for (int what = 3; what <= 7; what++) {
                is("of " + p + " " + what, x.of(p, what), m.of(p, what));
            }
        }
        for (int what = 0; what <= 5; what++) {
            is("told " + what, x.told(what), m.told(what));
        }
    }

    // ---- texts

    private void text() {
        StringBuilder text = new StringBuilder();
        int clauses = random.nextInt(8) == 0 ? 9 + random.nextInt(3) : 1 + random.nextInt(4);
        for (int k = 0; k < clauses; k++) {
            text.append(k == 0 ? "" : ";").append(clause());
        }
        if (random.nextInt(3) == 0 && text.length() > 0) {
            spoil(text);
        }
        for (int at = 0; at < text.length() && at < 101; at++) {
            int sign = text.charAt(at);
            is("feed " + (char) sign, x.feed(sign), m.feed(sign));
        }
        is("evening of '" + text + "'", x.evening(), m.evening());
    }

    private String number(int most) {
        int n = random.nextInt(most + 1);
        return n < 10 && random.nextInt(5) == 0 ? "0" + n : "" + n;
    }

    private String clause() {
        switch (random.nextInt(6)) {
            case 0: return "far " + number(25);
            case 1: return "cost " + number(99);
            case 2: return "dry " + number(40) + " " + expression(random.nextInt(5) == 0 ? -1 : 0);
            default: return "rain " + number(40) + " " + expression(0);
        }
    }

    private String expression(int within) {
        StringBuilder e = new StringBuilder(factor(within));
        while (random.nextInt(3) == 0) {
            e.append(random.nextBoolean() ? '&' : '|').append(factor(within));
        }
        return e.toString();
    }

    private String factor(int within) {
        int sort = random.nextInt(5);
        if (within < 4 && sort == 0) {
            return "!" + factor(within + 1);
        }
        if (within < 4 && sort == 1) {
            return "(" + expression(within + 1) + ")";
        }
        int letter = random.nextInt(6);
        int[] most = {6, 7, 20, 9, 40, 9};
        return "" + "pkdhws".charAt(letter) + "<=>".charAt(random.nextInt(3)) + number(most[letter]);
    }

    private void spoil(StringBuilder text) {
        String signs = "rainfdyecost pkhws<=>!&|();0123456789";
        int at = random.nextInt(text.length());
        switch (random.nextInt(4)) {
            case 0:
                text.setLength(at);
                break;
            case 1:
                text.deleteCharAt(at);
                break;
            case 2:
                text.insert(at, signs.charAt(random.nextInt(signs.length())));
                break;
            default:
                text.setCharAt(at, signs.charAt(random.nextInt(signs.length())));
                break;
        }
    }

    // ---- one call

    private void one(int call, int wrong) {
        int p = one(wrong);
        if (call < 13) {
            state(call, p, wrong);
        } else if (call < 24) {
            asked(call, p, wrong);
        } else {
            others(call, p, wrong);
        }
    }

    private void state(int call, int p, int wrong) {
        int a;
        int b;
        switch (call) {
            case 0:
                a = n(0, 6, wrong);
                b = n(0, 9, wrong);
                int door = n(0, 19, wrong);
                int hopes = n(0, 9, wrong);
                if (random.nextInt(4) == 0) {
                    is("person", x.person(a, b, door, hopes), m.person(a, b, door, hopes));
                }
                break;
            case 1:
                a = n(0, 7, wrong);
                is("of", x.of(p, a), m.of(p, a));
                break;
            case 2:
                a = n(0, 1, wrong);
                b = n(0, a == 0 ? 19 : 9, wrong);
                is("set", x.set(p, a, b), m.set(p, a, b));
                break;
            case 3:
                a = n(0, 3, wrong);
                b = n(0, 9, wrong);
                is("row", x.row(p, a, b), m.row(p, a, b));
                break;
            case 4:
                is("with", x.with(p), m.with(p));
                break;
            case 5:
                a = n(0, random.nextBoolean() ? 100 : 999, wrong);
                is("weight", x.weight(a), m.weight(a));
                break;
            case 6:
                a = n(0, 127, wrong);
                if (random.nextInt(9) == 0) {
                    is("feed", x.feed(a), m.feed(a));
                }
                break;
            case 7:
                a = n(0, 5, wrong);
                is("told", x.told(a), m.told(a));
                break;
            case 8:
                if (random.nextInt(3) == 0) {
                    is("image", x.image(), m.image());
                }
                break;
            case 9:
                if (random.nextInt(4) == 0) {
                    is("undo", x.undo(), m.undo());
                }
                break;
            default:
                for (int k = random.nextInt(4); k >= 0; k--) {
                    is("step", x.step(), m.step());
                }
                break;
        }
    }

    private void asked(int call, int p, int wrong) {
        int a;
        int b;
        switch (call) {
            case 13:
                a = n(0, 99, wrong);
                b = random.nextInt(3) == 0 ? n(0, 2, wrong) : 10 * (1 + random.nextInt(2)) + p;
                is("on", x.on(a, b), m.on(a, b));
                break;
            case 14:
                is("ends", x.ends(), m.ends());
                break;
            case 15:
                is("longest", x.longest(), m.longest());
                break;
            case 16:
                a = n(1, 60, wrong);
                b = n(0, 1, wrong);
                is("stand", x.stand(p, a, b), m.stand(p, a, b));
                break;
            case 17:
                a = n(1, 60, wrong);
                is("needs", x.needs(p, a), m.needs(p, a));
                break;
            case 18:
                is("heavy", x.heavy(p), m.heavy(p));
                break;
            case 19:
                is("change", x.change(), m.change());
                break;
            case 20:
                a = n(1, 60, wrong);
                is("mute", x.mute(a), m.mute(a));
                break;
            case 21:
                a = n(0, 99, wrong);
                b = n(0, 1, wrong);
                is("odds", x.odds(a, b), m.odds(a, b));
                break;
            case 22:
                a = n(1, 60, wrong);
                b = n(0, 1, wrong);
                is("mean", x.mean(a, b), m.mean(a, b));
                break;
            default:
                a = n(0, 2, wrong);
                is("gone", x.gone(a), m.gone(a));
                break;
        }
    }

    private void others(int call, int p, int wrong) {
        int a = n(0, 5, wrong);
        int b = n(0, 9, wrong);
        switch (call) {
            case 24:
                see(p, wrong);
                break;
            case 25:
                is("from", x.from(), m.from());
                break;
            case 26:
            case 27:
                b = n(0, 1, wrong);
                is("had", x.had(p, b), m.had(p, b));
                break;
            case 28:
                b = random.nextInt(8) == 0 ? -1 : n(0, 2, wrong);
                is("game", x.game(b, p), m.game(b, p));
                break;
            case 29:
                b = random.nextInt(2) == 0 ? m.of(p, 4) : n(0, 9999, wrong);
                p = random.nextInt(8) == 0 ? -1 : p;
                is("book", x.book(p, b), m.book(p, b));
                is("looked", x.looked(), m.looked());
                break;
            case 30:
                judge(a, wrong);
                break;
            case 31:
                act(p, wrong);
                break;
            case 32:
                b = n(0, 6, wrong);
                is("taken", x.taken(p, b), m.taken(p, b));
                break;
            case 33:
                b = n(0, 6, wrong);
                is("count", x.count(b), m.count(b));
                break;
            case 34:
                int sort = n(-1, 4, wrong);
                b = n(0, random.nextBoolean() ? 60 : 5, wrong);
                is("tape", x.tape(a, sort, b), m.tape(a, sort, b));
                break;
            case 35:
                long v = random.nextBoolean() ? random.nextInt(300) - 20 : random.nextLong() >> random.nextInt(64);
                is("item", x.item(a, b, v), m.item(a, b, v));
                break;
            case 36:
                is("read", x.read(a, b), m.read(a, b));
                break;
            default:
                int other = random.nextInt(3) == 0 ? a : n(0, 5, wrong);
                int j = n(0, 5, wrong);
                int n = n(0, 5, wrong);
                is("shift", x.shift(a, b, other, j, n), m.shift(a, b, other, j, n));
                break;
        }
    }

    /** Half of what is seen is so. */
    private void see(int p, int wrong) {
        int n = n(0, random.nextBoolean() ? 60 : 6, wrong);
        if (random.nextInt(6) == 0) {
            is("see none", x.see(-1, n), m.see(-1, n));
            return;
        }
        int who = random.nextBoolean() ? m.on(n, 0) : p;
        who = who == -1 ? p : who;
        is("see", x.see(who, n), m.see(who, n));
    }

    /** Half of the rows are as the HOPES are, or nearly. */
    private void judge(int tape, int wrong) {
        int i = n(0, 5, wrong);
        if (random.nextBoolean() && i >= 0 && i <= 9) {
            int size = i + random.nextInt(7);
            is("tape", x.tape(tape, 0, size), m.tape(tape, 0, size));
            for (int p = 0; p < m.count(0); p++) {
                int hopes = m.of(p, 3) + (random.nextInt(20) == 0 ? 1 : 0);
                is("item", x.item(tape, i + p, hopes), m.item(tape, i + p, hopes));
            }
        }
        is("judge", x.judge(tape, i), m.judge(tape, i));
    }

    private void act(int p, int wrong) {
        int act = n(0, 2, wrong);
        int v = random.nextBoolean() ? random.nextInt(20) : random.nextInt();
        is("act", x.act(p, act, v), m.act(p, act, v));
        is("bodies", x.count(6), m.count(6));
        for (int k = random.nextInt(3); k < 13; k += 3) {
            is("trace", x.trace(k), m.trace(k));
        }
    }
}
