/** The edges that the document names of ACTS, THE TRACE, of who is taken for what, of counts (terms 2; promises 32 to
 *  35). */
public final class EdgeActTest {
    private static final int NONE = LastAtPump.NONE, BAD = LastAtPump.BAD, NOTHING = -11, CAST = -12;
    private static final int MIN = Integer.MIN_VALUE, MAX = Integer.MAX_VALUE;
    private static final int WAITS = 0, TELLS = 1, HOPES = 2;

    public static void main(String[] args) {
        sums();
        differences();
        products();
        minus();
        others();
        numbers();
        noSuchPerson();
        noSuchAct();
        acts();
        bodiesAbove();
        traceOfNone();
        traceEnds();
        traceOfTheLatest();
        takenFor();
        takenWhat();
        takenNobody();
        countWhat();
        countFull();
        countNone();
        Due.end();
    }

    /** One of each KIND up to 5, its number is its KIND, of v. */
    private static LastAtPump all(int v) {
        LastAtPump x = new LastAtPump();
        for (int kind = 0; kind <= 5; kind++) {
            x.person(kind, v, 0, 0);
        }
        return x;
    }

    /** TOLD ones of v, numbers 0 to 5. */
    private static LastAtPump told(int v) {
        LastAtPump x = new LastAtPump();
        for (int p = 0; p <= 5; p++) {
            x.person(6, v, 0, 0);
        }
        return x;
    }

    private static void sums() {
        Due.words("ACTS of a PERSON with x (wrapping): 10 waits: x + i.");
        LastAtPump x = all(9);
        Due.is("0 and max", x.act(0, WAITS, MAX), MAX);
        Due.is("1 and max", x.act(1, WAITS, MAX), MIN);
        Due.is("3 and max", x.act(3, WAITS, MAX), MIN + 2);
        Due.is("1 and min", x.act(1, WAITS, MIN), MIN + 1);
        Due.is("3 and -3", x.act(3, WAITS, -3), 0);
        Due.words("(wrapping): 51 tells: super.tells(x + 1)");
        // x + 1 is min; 4 more, minus: min less 4, wrapped: max - 3; less 9, ^ 6.
        Due.is("weary: max", x.act(4, TELLS, MAX), (MAX - 3 - 9) ^ 6);
        Due.words("(wrapping): 40 hopes: super.hopes(x) + tells(1)");
        // (x + 3) * 2, and 1 + 3.
        LastAtPump y = all(0);
        Due.is("sly: max less 5, and 4", y.act(3, HOPES, (1 << 30) - 6), MAX - 1);
        Due.is("sly: max less 1, and 4", y.act(3, HOPES, (1 << 30) - 4), MIN + 2);
        Due.is("sly: min, and 4", y.act(3, HOPES, (1 << 30) - 3), MIN + 4);
        Due.words("(wrapping): 70 tells: super.tells(x) + super.waits(2)");
        // (x + 1) ^ 0 - 0, and 2 + 1.
        LastAtPump z = told(0);
        Due.is("told: max", z.act(1, TELLS, MAX - 1), MIN + 2);
        Due.is("told: just max", z.act(1, TELLS, MAX - 4), MAX);
    }

    private static void differences() {
        Due.words("(wrapping): 11 tells: waits(x) - v.");
        LastAtPump x = all(9);
        Due.is("min less 9", x.act(0, TELLS, MIN), MAX - 8);
        Due.is("min and 9 less 9", x.act(0, TELLS, MIN + 9), MIN);
        Due.is("v 0", all(0).act(0, TELLS, MIN), MIN);
        Due.words("(wrapping): 60 hopes: super.hopes(x - i).");
        LastAtPump y = all(0);
        // x - 5 is max; by 3: max - 2; and 5: min + 2; by 2: 4.
        Due.is("dreadful", y.act(5, HOPES, MIN + 4), 4);
        Due.is("dreadful, no wrap", y.act(5, HOPES, 5), 10);
    }

    private static void products() {
        Due.words("(wrapping): 12 hopes: tells(x) * 2.");
        LastAtPump x = all(0);
        Due.is("max", x.act(0, HOPES, MAX), -2);
        Due.is("min", x.act(0, HOPES, MIN), 0);
        Due.is("half", x.act(0, HOPES, 1 << 30), MIN);
        Due.is("half less 1", x.act(0, HOPES, (1 << 30) - 1), MAX - 1);
        Due.words("(wrapping): 30 waits: super.waits(x * 3).");
        Due.is("child, max", x.act(2, WAITS, MAX), MAX - 2 + 2);
        Due.is("child, min", x.act(2, WAITS, MIN), MIN + 2);
        Due.is("child, a third", x.act(2, WAITS, 715827882), MAX - 1 + 2);
        Due.is("child, a third and 1", x.act(2, WAITS, 715827883), MIN + 1 + 2);
    }

    private static void minus() {
        Due.words("(wrapping): 50 waits: -super.waits(x).");
        LastAtPump x = all(0);
        Due.is("weary, min", x.act(4, WAITS, MIN - 4), MIN);
        Due.is("weary, max", x.act(4, WAITS, MAX - 4), -MAX);
        Due.is("weary, min and 1", x.act(4, WAITS, MIN + 1 - 4), MAX);
        Due.is("weary, 0", x.act(4, WAITS, -4), 0);
    }

    private static void others() {
        Due.words("20 tells: super.tells(x) ^ 6. 71 waits: super.waits(x) ^ v.");
        LastAtPump x = all(0);
        Due.is("old, max", x.act(1, TELLS, MAX - 1), MAX - 6);
        Due.is("old, min", x.act(1, TELLS, MIN - 1), MIN + 6);
        LastAtPump y = told(9);
        Due.is("told, 0", y.act(0, WAITS, 0), 9);
        Due.is("told, -1", y.act(0, WAITS, -1), -10);
        Due.is("told, max", y.act(0, WAITS, MAX), MAX - 9);
        Due.is("told, v 0", told(0).act(5, WAITS, 7), 12);
    }

    private static void numbers() {
        Due.words("i its number");
        for (int p = 0; p <= 5; p++) {
            LastAtPump x = Due.street(0, 0, 0, 0, 0, 0, 0, 0, 0, 0, 0, 0, 0);
            Due.is("of " + p, x.act(p, WAITS, 100), 100 + p);
            // (x + p) ^ v, - v, and 2 + p.
            Due.is("told one " + p, told(1).act(p, TELLS, 100), ((100 + p) ^ 1) - 1 + 2 + p);
        }
    }

    private static void noSuchPerson() {
        Due.words("Promise 32: 0, and no TRACE then: no such PERSON");
        for (int p : Due.outside(0, 5)) {
            LastAtPump x = all(1);
            x.act(5, HOPES, 7);
            Due.is("person " + p, x.act(p, WAITS, 7), 0);
            Due.is("no body", x.count(6), 0);
            Due.is("no trace", x.trace(0), NONE);
        }
        LastAtPump nobody = new LastAtPump();
        Due.is("nobody there", nobody.act(0, WAITS, 7), 0);
    }

    private static void noSuchAct() {
        Due.words("Promise 32: 0, and no TRACE then: no such .. act.");
        for (int act : Due.outside(0, 2)) {
            LastAtPump x = all(1);
            x.act(5, HOPES, 7);
            Due.is("act " + act, x.act(5, act, 7), 0);
            Due.is("no body", x.count(6), 0);
            Due.is("no trace", x.trace(0), NONE);
            Due.is("act " + act + " of nobody", x.act(6, act, 7), 0);
        }
    }

    private static void acts() {
        Due.words("Promise 32: An ACT (0 waits, 1 tells, 2 hopes)");
        LastAtPump x = all(3);
        Due.all("0, 1, 2", new long[] {x.act(0, 0, 7), x.act(0, 1, 7), x.act(0, 2, 7)}, 7, 4, 8);
    }

    private static void bodiesAbove() {
        Due.words("the body of its KIND, or, if that has none, of the next KIND above that has one");
        int[][] first = {{10, 10, 30, 10, 50, 30, 71}, {11, 20, 11, 11, 51, 11, 70}, {12, 12, 12, 40, 12, 60, 40}};
        int[][] second = {{NONE, NONE, 10, NONE, 10, 10, 10}, {10, 11, 30, 10, 20, 30, 11}, {11, 20, 11, 12, 51, 12, 12}};
        for (int kind = 0; kind <= 6; kind++) {
            for (int act = WAITS; act <= HOPES; act++) {
                LastAtPump x = new LastAtPump();
                x.person(kind, 1, 0, 0);
                x.act(0, act, 7);
                Due.is("kind " + kind + ", act " + act, x.trace(0), first[act][kind]);
                Due.is("kind " + kind + ", act " + act + ", then", x.trace(1), second[act][kind]);
            }
        }
    }

    private static void traceOfNone() {
        Due.words("Promise 33: THE TRACE's i-th body. NONE. (no act yet)");
        LastAtPump x = all(1);
        for (int i = -1; i <= 20; i++) {
            Due.is("i " + i, x.trace(i), NONE);
        }
    }

    private static void traceEnds() {
        Due.words("THE TRACE: the numbers of the bodies that ran in the latest act(), as they began; 20 are kept");
        // No act runs more than these twelve, so all are kept.
        LastAtPump x = told(1);
        x.act(0, HOPES, 7);
        int[] due = {40, 12, 70, 11, 71, 10, 10, 70, 11, 71, 10, 10};
        Due.is("bodies", x.count(6), 12);
        for (int i = 0; i <= 11; i++) {
            Due.is("i " + i, x.trace(i), due[i]);
        }
        for (int i : new int[] {-1, 12, 13, 19, 20, 21, MIN, MAX}) {
            Due.is("i " + i, x.trace(i), NONE);
        }
        x.act(0, WAITS, 7);
        Due.all("0, 1, 2", new long[] {x.trace(0), x.trace(1), x.trace(2), x.count(6)}, 71, 10, NONE, 2);
    }

    private static void traceOfTheLatest() {
        Due.words("THE TRACE: .. in the latest act()");
        LastAtPump x = all(1);
        for (int k = 0; k < 30; k++) {
            x.act(0, WAITS, k);
        }
        Due.all("the latest alone", new long[] {x.count(6), x.trace(0), x.trace(1)}, 1, 10, NONE);
        x.step();
        x.image();
        x.undo();
        Due.all("through other calls", new long[] {x.count(6), x.trace(0), x.trace(1)}, 1, 10, NONE);
    }

    private static void takenFor() {
        Due.words("Promise 34: A PERSON taken for one of KIND k (0 .. 6), or one under that: its KIND. .. CAST");
        // By the KIND of who is taken: for which KINDS.
        String[] under = {"0", "01", "02", "03", "014", "025", "036"};
        for (int kind = 0; kind <= 6; kind++) {
            LastAtPump x = new LastAtPump();
            x.person(kind, 0, 0, 0);
            for (int k = 0; k <= 6; k++) {
                boolean is = under[kind].indexOf('0' + k) >= 0;
                Due.is("kind " + kind + " for one of " + k, x.taken(0, k), is ? kind : CAST);
            }
        }
    }

    private static void takenWhat() {
        Due.words("Promise 34: BAD: k");
        LastAtPump x = all(1);
        for (int k : Due.outside(0, 6)) {
            Due.is("k " + k, x.taken(0, k), BAD);
            Due.is("k " + k + " of nobody", x.taken(6, k), BAD);
        }
    }

    private static void takenNobody() {
        Due.words("Promise 34: NOTHING: no such PERSON");
        LastAtPump x = all(1);
        for (int p : Due.outside(0, 5)) {
            for (int k = 0; k <= 6; k++) {
                Due.is("person " + p, x.taken(p, k), NOTHING);
            }
        }
        Due.is("nobody there", new LastAtPump().taken(0, 0), NOTHING);
        Due.is("5", x.taken(5, 5), 5);
    }

    private static void countWhat() {
        Due.words("Promise 35: How many: 0 PEOPLE .. 6 bodies. BAD.");
        LastAtPump x = new LastAtPump();
        Due.is("0", x.count(0), 0);
        Due.is("6", x.count(6), 0);
        for (int what : Due.outside(0, 6)) {
            Due.is("what " + what, x.count(what), BAD);
        }
    }

    private static void countFull() {
        Due.words("Promise 35: How many (as many as can be)");
        LastAtPump x = told(1);
        for (int k = 0; k <= 5; k++) {
            Due.evening(x, "far 1");
        }
        for (int k = 0; k <= 10; k++) {
            x.person(0, 0, 0, 0);
            x.see(0, 0);
            x.game(0, 0);
            x.book(0, 0);
        }
        for (int k = 0; k <= 110; k++) {
            x.feed(k);
        }
        x.evening();
        x.act(0, HOPES, 1);
        Due.all("all full", new long[] {x.count(0), x.count(1), x.count(2), x.count(3), x.count(4), x.count(5),
                x.count(6)}, 6, 6, 6, 10, 8, 100, 12);
    }

    private static void countNone() {
        Due.words("Promise 35: How many (none again)");
        LastAtPump x = new LastAtPump();
        x.image();
        x.person(0, 0, 0, 0);
        Due.evening(x, "far 1");
        x.feed('f');
        x.see(0, 0);
        x.game(0, 0);
        x.book(0, 0);
        x.act(0, WAITS, 0);
        Due.all("one each", new long[] {x.count(0), x.count(1), x.count(2), x.count(3), x.count(4), x.count(5),
                x.count(6)}, 1, 1, 1, 1, 1, 1, 1);
        x.undo();
        x.evening();
        x.act(0, WAITS, 0);
        Due.all("but the evening", new long[] {x.count(0), x.count(1), x.count(2), x.count(3), x.count(4), x.count(5),
                x.count(6)}, 0, 1, 0, 0, 0, 0, 0);
    }
}
