/** Promises 32 to 35: act, trace, taken, count. */
public final class ActTest {
    public static void main(String[] args) {
        bodies();
        wraps();
        traces();
        noAct();
        taken();
        count();
        Due.end();
    }

    /** People of all KINDS but 6; i is the KIND, v is 3. */
    private static LastAtPump all() {
        LastAtPump x = new LastAtPump();
        for (int kind = 0; kind <= 5; kind++) {
            x.person(kind, 3, 0, 0);
        }
        return x;
    }

    /** TOLD ones; i is 0, 1; v is 6. */
    private static LastAtPump told() {
        LastAtPump x = new LastAtPump();
        x.person(6, 6, 0, 0);
        x.person(6, 6, 0, 0);
        return x;
    }

    private static void trace(String act, LastAtPump x, int... due) {
        Due.is(act + ": bodies", x.count(6), due.length);
        for (int k = 0; k < due.length; k++) {
            Due.is(act + ": body " + k, x.trace(k), due[k]);
        }
        Due.is(act + ": no more", x.trace(due.length), LastAtPump.NONE);
    }

    private static void bodies() {
        LastAtPump x = all();
        Due.is("person waits", x.act(0, 0, 7), 7);
        trace("person waits", x, 10);
        Due.is("person tells", x.act(0, 1, 7), 4);
        trace("person tells", x, 11, 10);
        Due.is("person hopes", x.act(0, 2, 7), 8);
        trace("person hopes", x, 12, 11, 10);
        Due.is("old waits", x.act(1, 0, 7), 8);
        trace("old waits", x, 10);
        // (7 + 1 - 3) ^ 6
        Due.is("old tells", x.act(1, 1, 7), 3);
        trace("old tells", x, 20, 11, 10);
        Due.is("old hopes", x.act(1, 2, 7), 6);
        trace("old hopes", x, 12, 20, 11, 10);
        // 7 * 3 + 2
        Due.is("child waits", x.act(2, 0, 7), 23);
        trace("child waits", x, 30, 10);
        Due.is("child tells", x.act(2, 1, 7), 20);
        trace("child tells", x, 11, 30, 10);
        Due.is("child hopes", x.act(2, 2, 7), 40);
        trace("child hopes", x, 12, 11, 30, 10);
        Due.is("sly waits", x.act(3, 0, 7), 10);
        trace("sly waits", x, 10);
        Due.is("sly tells", x.act(3, 1, 7), 7);
        trace("sly tells", x, 11, 10);
        // (7 + 3 - 3) * 2 + (1 + 3 - 3)
        Due.is("sly hopes", x.act(3, 2, 7), 15);
        trace("sly hopes", x, 40, 12, 11, 10, 11, 10);
        Due.is("weary waits", x.act(4, 0, 7), -11);
        trace("weary waits", x, 50, 10);
        // (-(7 + 1 + 4) - 3) ^ 6
        Due.is("weary tells", x.act(4, 1, 7), -15 ^ 6);
        trace("weary tells", x, 51, 20, 11, 50, 10);
        Due.is("weary hopes", x.act(4, 2, 7), (-15 ^ 6) * 2);
        trace("weary hopes", x, 12, 51, 20, 11, 50, 10);
        // 7 * 3 + 5
        Due.is("dreadful waits", x.act(5, 0, 7), 26);
        trace("dreadful waits", x, 30, 10);
        Due.is("dreadful tells", x.act(5, 1, 7), 23);
        trace("dreadful tells", x, 11, 30, 10);
        // ((7 - 5) * 3 + 5 - 3) * 2
        Due.is("dreadful hopes", x.act(5, 2, 7), 16);
        trace("dreadful hopes", x, 60, 12, 11, 30, 10);
        LastAtPump y = told();
        // (7 + 1) ^ 6
        Due.is("told waits", y.act(1, 0, 7), 14);
        trace("told waits", y, 71, 10);
        // (14 - 6) + (2 + 1)
        Due.is("told tells", y.act(1, 1, 7), 11);
        trace("told tells", y, 70, 11, 71, 10, 10);
        // 11 * 2 + (((1 + 1) ^ 6) - 6 + 3)
        Due.is("told hopes", y.act(1, 2, 7), 23);
        trace("told hopes", y, 40, 12, 70, 11, 71, 10, 10, 70, 11, 71, 10, 10);
    }

    private static void wraps() {
        LastAtPump x = all();
        Due.is("waits", x.act(1, 0, Integer.MAX_VALUE), Integer.MIN_VALUE);
        Due.is("tells", x.act(0, 1, Integer.MIN_VALUE), Integer.MAX_VALUE - 2);
        Due.is("hopes", x.act(0, 2, 1 << 30 | 5), Integer.MIN_VALUE + 4);
        Due.is("child", x.act(2, 0, Integer.MAX_VALUE), Integer.MAX_VALUE - 2 + 2);
        Due.is("weary", x.act(4, 0, Integer.MAX_VALUE - 3), Integer.MIN_VALUE);
    }

    private static void traces() {
        LastAtPump x = told();
        Due.is("none yet", x.trace(0), LastAtPump.NONE);
        x.act(0, 2, 1);
        Due.is("-1", x.trace(-1), LastAtPump.NONE);
        Due.is("11", x.trace(11), 10);
        Due.is("12", x.trace(12), LastAtPump.NONE);
        Due.is("19", x.trace(19), LastAtPump.NONE);
        Due.is("20", x.trace(20), LastAtPump.NONE);
        Due.is("min", x.trace(Integer.MIN_VALUE), LastAtPump.NONE);
        Due.is("max", x.trace(Integer.MAX_VALUE), LastAtPump.NONE);
        x.act(0, 0, 1);
        Due.is("the latest alone", x.count(6), 2);
        Due.is("the latest alone: 2", x.trace(2), LastAtPump.NONE);
        x.step();
        x.taken(0, 0);
        Due.is("kept through other calls", x.trace(0), 71);
    }

    private static void noAct() {
        LastAtPump x = told();
        for (int[] wrong : new int[][] {{2, 0}, {-1, 0}, {0, 3}, {0, -1}, {9, 9}}) {
            x.act(0, 0, 1);
            Due.is("no such", x.act(wrong[0], wrong[1], 7), 0);
            Due.is("no trace then", x.trace(0), LastAtPump.NONE);
            Due.is("no bodies then", x.count(6), 0);
        }
    }

    private static void taken() {
        LastAtPump x = all();
        int[][] under = {{0}, {0, 1}, {0, 2}, {0, 3}, {0, 1, 4}, {0, 2, 5}};
        for (int kind = 0; kind <= 5; kind++) {
            for (int k = 0; k <= 6; k++) {
                boolean is = false;
                for (int one : under[kind]) {
                    is |= one == k;
                }
                Due.is("kind " + kind + " for one of " + k, x.taken(kind, k), is ? kind : -12);
            }
        }
        LastAtPump y = told();
        Due.all("told", new long[] {y.taken(0, 0), y.taken(0, 1), y.taken(0, 2), y.taken(0, 3), y.taken(0, 4),
                y.taken(0, 5), y.taken(0, 6)}, 6, -12, -12, 6, -12, -12, 6);
        Due.is("k 7", x.taken(6, 7), LastAtPump.BAD);
        Due.is("k -1", x.taken(0, -1), LastAtPump.BAD);
        Due.is("person 6", x.taken(6, 6), -11);
        Due.is("person -1", x.taken(-1, 0), -11);
    }

    private static void count() {
        LastAtPump x = told();
        Due.evening(x, "far 9");
        Due.feed(x, "abc");
        for (int k = 0; k < 4; k++) {
            x.see(0, 0);
        }
        for (int k = 0; k < 5; k++) {
            x.game(0, 0);
        }
        for (int k = 0; k < 6; k++) {
            x.book(0, 0);
        }
        x.act(0, 1, 0);
        Due.all("count", new long[] {x.count(0), x.count(1), x.count(2), x.count(3), x.count(4), x.count(5),
                x.count(6)}, 2, 1, 4, 5, 6, 3, 5);
        Due.is("7", x.count(7), LastAtPump.BAD);
        Due.is("-1", x.count(-1), LastAtPump.BAD);
    }
}
