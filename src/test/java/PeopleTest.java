/** Promises 1 to 7: a new object, person, of, set, row, with, weight. */
public final class PeopleTest {
    public static void main(String[] args) {
        newObject();
        person();
        personAfterUndo();
        of();
        reachOfKinds();
        reachIsNeverBelowNothing();
        dreadfulBySteps();
        toNearest();
        toFarthestWithin();
        toMostHopeful();
        set();
        row();
        with();
        weight();
        Due.end();
    }

    private static void newObject() {
        LastAtPump x = new LastAtPump();
        Due.all("told", new long[] {x.told(0), x.told(1), x.told(2), x.told(3), x.told(4), x.told(5)},
                0, -5, 0, -5, 12, 5);
        for (int what = 0; what <= 6; what++) {
            Due.is("count " + what, x.count(what), 0);
        }
        Due.is("undo", x.undo(), LastAtPump.STATE);
        Due.is("step", x.step(), LastAtPump.STATE);
        Due.is("evening", x.evening(), -10);
        Due.is("trace", x.trace(0), LastAtPump.NONE);
        Due.is("read", x.read(0, 0), LastAtPump.NO);
        Due.is("of", x.of(0, 0), -1001);
        Due.is("with", x.with(0), LastAtPump.NONE);
        Due.is("NO", LastAtPump.NO, Long.MIN_VALUE);
    }

    private static void person() {
        LastAtPump x = new LastAtPump();
        Due.is("kind -1", x.person(-1, 0, 0, 0), LastAtPump.NONE);
        Due.is("kind 7", x.person(7, 0, 0, 0), LastAtPump.NONE);
        Due.is("kind ahead of v", x.person(7, 10, 20, 10), LastAtPump.NONE);
        Due.is("v -1", x.person(0, -1, 0, 0), LastAtPump.BAD);
        Due.is("v 10", x.person(0, 10, 0, 0), LastAtPump.BAD);
        Due.is("door -1", x.person(0, 0, -1, 0), LastAtPump.BAD);
        Due.is("door 20", x.person(0, 0, 20, 0), LastAtPump.BAD);
        Due.is("hopes -1", x.person(0, 0, 0, -1), LastAtPump.BAD);
        Due.is("hopes 10", x.person(0, 0, 0, 10), LastAtPump.BAD);
        Due.is("nobody came", x.count(0), 0);
        Due.is("nobody has it", x.told(1), -5);
        Due.is("first", x.person(0, 0, 0, 0), 0);
        Due.is("it has it", x.told(1), 0);
        for (int kind = 1; kind <= 5; kind++) {
            Due.is("kind " + kind, x.person(kind, 9, 19, 9), kind);
        }
        Due.is("seventh", x.person(6, 1, 1, 1), LastAtPump.FULL);
        Due.is("seventh, kind", x.person(7, 1, 1, 1), LastAtPump.NONE);
        Due.is("seventh, hopes", x.person(6, 1, 1, 10), LastAtPump.BAD);
        Due.is("six", x.count(0), 6);
        Due.is("kind 6", new LastAtPump().person(6, 0, 0, 0), 0);
    }

    private static void personAfterUndo() {
        LastAtPump x = new LastAtPump();
        x.person(0, 0, 0, 1);
        x.image();
        x.person(6, 0, 19, 1);
        x.row(1, 0, 6);
        x.with(1);
        Due.is("it tells", x.step(), 1);
        Due.is("it has told", x.of(1, 4), 1);
        Due.is("undo", x.undo(), 1);
        Due.is("another one of that number", x.person(6, 3, 18, 2), 1);
        Due.is("it has told nothing", x.of(1, 4), 0);
        Due.is("its row is 0", x.row(1, 0, 0), 0);
    }

    private static void of() {
        LastAtPump x = new LastAtPump();
        x.person(3, 4, 17, 8);
        Due.all("of", new long[] {x.of(0, 0), x.of(0, 1), x.of(0, 2), x.of(0, 3), x.of(0, 4), x.of(0, 5), x.of(0, 6),
                x.of(0, 7)}, 3, 4, 17, 8, 0, 12, -5, 0);
        Due.is("what -1", x.of(0, -1), -1001);
        Due.is("what 8", x.of(0, 8), -1001);
        Due.is("person 1", x.of(1, 0), -1001);
        Due.is("person -1", x.of(-1, 0), -1001);
        Due.is("person min", x.of(Integer.MIN_VALUE, 0), -1001);
        Due.is("rain", Due.evening(x, "rain 7 k=3;dry 90 h=8"), 0);
        Due.is("rain below 0", x.of(0, 7), -83);
    }

    private static void reachOfKinds() {
        LastAtPump x = new LastAtPump();
        for (int kind = 0; kind <= 5; kind++) {
            x.person(kind, 5, 3, 0);
        }
        Due.all("reach", new long[] {x.of(0, 5), x.of(1, 5), x.of(2, 5), x.of(3, 5), x.of(4, 5), x.of(5, 5)},
                12, 10, 14, 12, 5, 0);
        x.weight(39);
        Due.all("reach at 39", new long[] {x.of(0, 5), x.of(1, 5), x.of(2, 5), x.of(3, 5), x.of(4, 5)},
                8, 6, 10, 8, 3);
        Due.is("far", Due.evening(x, "far 20;cost 1"), 0);
        Due.all("reach at 39 by far 20", new long[] {x.of(0, 5), x.of(1, 5), x.of(2, 5), x.of(3, 5), x.of(4, 5)},
                16, 14, 18, 16, 7);
        LastAtPump y = new LastAtPump();
        y.person(6, 5, 3, 0);
        y.row(0, 0, 4);
        y.row(0, 1, 9);
        Due.is("told one", y.of(0, 5), 16);
        y.weight(8);
        Due.is("told one at 8", y.of(0, 5), 15);
        LastAtPump z = new LastAtPump();
        z.person(1, 9, 0, 0);
        z.person(4, 9, 0, 0);
        z.person(4, 0, 0, 0);
        z.person(4, 2, 0, 0);
        Due.all("halves", new long[] {z.of(0, 5), z.of(1, 5), z.of(2, 5), z.of(3, 5)}, 8, 4, 6, 5);
    }

    private static void reachIsNeverBelowNothing() {
        LastAtPump x = new LastAtPump();
        for (int kind = 0; kind <= 4; kind++) {
            x.person(kind, 9, 3, 0);
        }
        x.person(6, 9, 3, 0);
        x.row(5, 0, 6);
        x.weight(999);
        Due.all("reach at 999", new long[] {x.of(0, 5), x.of(1, 5), x.of(2, 5), x.of(3, 5), x.of(4, 5), x.of(5, 5)},
                0, 0, 2, 0, 0, 6);
        x.weight(80);
        Due.all("reach at 80", new long[] {x.of(0, 5), x.of(1, 5), x.of(2, 5), x.of(3, 5), x.of(4, 5), x.of(5, 5)},
                2, 0, 4, 2, 0, 8);
    }

    private static void dreadfulBySteps() {
        LastAtPump x = new LastAtPump();
        x.person(0, 0, 4, 0);
        x.person(0, 0, 4, 0);
        x.person(5, 1, 9, 0);
        x.person(5, 0, 9, 0);
        x.person(6, 0, 9, 0);
        for (int part = 0; part < 4; part++) {
            x.row(4, part, part + 1);
        }
        int[] byThree = {0, 14, 14, 0, 14, 14, 0};
        int[] byTwo = {0, 14, 0, 14, 0, 14, 0};
        int[] toldOnes = {13, 14, 15, 16, 13, 14, 15};
        for (int step = 0; step <= 6; step++) {
            Due.is("dreadful, v 1, step " + step, x.of(2, 5), byThree[step]);
            Due.is("dreadful, v 0, step " + step, x.of(3, 5), byTwo[step]);
            Due.is("told, step " + step, x.of(4, 5), toldOnes[step]);
            Due.is("step", x.step(), 0);
        }
    }

    private static void toNearest() {
        for (int kind : new int[] {0, 1, 4}) {
            LastAtPump x = Due.street(0, 3, 9, 9, 0, 15, 0, 10, 0, 8, 0);
            x.person(kind, 0, 9, 0);
            Due.is("nearest of kind " + kind, x.of(5, 6), 1);
            x.set(1, 0, 11);
            Due.is("the first of two, kind " + kind, x.of(5, 6), 3);
            x.set(3, 0, 19);
            Due.is("nearest behind it, kind " + kind, x.of(5, 6), 4);
        }
        LastAtPump x = Due.street(0, 3, 9);
        Due.is("alone", x.of(0, 6), -5);
    }

    private static void toFarthestWithin() {
        LastAtPump x = Due.street(2, 0, 0, 14, 0, 15, 0, 2, 0);
        Due.is("farthest within 14", x.of(0, 6), 1);
        x.set(2, 0, 14);
        Due.is("the first of two", x.of(0, 6), 1);
        x.weight(8);
        Due.is("farthest within 13", x.of(0, 6), 3);
        x.weight(999);
        Due.is("farthest within 2", x.of(0, 6), 3);
        x.set(3, 0, 5);
        Due.is("none within: nearest", x.of(0, 6), 3);
        Due.is("of the other", x.of(1, 6), 2);
        LastAtPump y = Due.street(5, 9, 0, 19, 0, 5, 0, 9, 0);
        Due.is("dreadful at step 0: who is at its door", y.of(0, 6), 3);
        y.set(3, 0, 0);
        Due.is("dreadful at step 0: nearest", y.of(0, 6), 2);
        y.with(1);
        y.set(0, 0, 19);
        Due.is("step", y.step(), 0);
        Due.is("dreadful at step 1", y.of(2, 6), 0);
    }

    private static void toMostHopeful() {
        for (int kind : new int[] {3, 6}) {
            LastAtPump x = Due.street(kind, 0, 9, 1, 2, 19, 5, 2, 5, 3, 4);
            Due.is("most hopes, not its own, kind " + kind, x.of(0, 6), 2);
            Due.is("most hopes, kind " + kind, x.of(3, 6), 0);
            x.set(4, 1, 6);
            Due.is("most hopes then, kind " + kind, x.of(0, 6), 4);
            LastAtPump y = Due.street(kind, 0, 0, 1, 0, 1, 0);
            Due.is("all alike: the first other, kind " + kind, y.of(0, 6), 1);
            Due.is("all alike: the first, kind " + kind, y.of(2, 6), 0);
        }
    }

    private static void set() {
        LastAtPump x = Due.street(0, 3, 4);
        Due.is("door", x.set(0, 0, 19), 3);
        Due.is("door again", x.set(0, 0, 0), 19);
        Due.is("hopes", x.set(0, 1, 9), 4);
        Due.is("hopes again", x.set(0, 1, 0), 9);
        Due.is("door 20", x.set(0, 0, 20), LastAtPump.BAD);
        Due.is("door -1", x.set(0, 0, -1), LastAtPump.BAD);
        Due.is("hopes 10", x.set(0, 1, 10), LastAtPump.BAD);
        Due.is("hopes -1", x.set(0, 1, -1), LastAtPump.BAD);
        Due.is("what 2", x.set(0, 2, 20), LastAtPump.NONE);
        Due.is("what -1", x.set(0, -1, 0), LastAtPump.NONE);
        Due.is("person 1", x.set(1, 0, 20), LastAtPump.NONE);
        Due.is("person -1", x.set(-1, 0, 0), LastAtPump.NONE);
        Due.is("door stays", x.of(0, 2), 0);
        Due.is("hopes stay", x.of(0, 3), 0);
    }

    private static void row() {
        LastAtPump x = Due.street(6, 3, 4);
        x.person(3, 0, 0, 0);
        for (int part = 0; part < 4; part++) {
            Due.is("part", x.row(0, part, 9 - part), 0);
        }
        for (int part = 0; part < 4; part++) {
            Due.is("part again", x.row(0, part, 0), 9 - part);
        }
        Due.is("part 4", x.row(0, 4, 10), LastAtPump.NONE);
        Due.is("part -1", x.row(0, -1, 0), LastAtPump.NONE);
        Due.is("person 2", x.row(2, 0, 0), LastAtPump.NONE);
        Due.is("n 10", x.row(0, 0, 10), LastAtPump.BAD);
        Due.is("n -1", x.row(0, 0, -1), LastAtPump.BAD);
        Due.is("n ahead of another kind", x.row(1, 0, 10), LastAtPump.BAD);
        Due.is("another kind", x.row(1, 0, 1), LastAtPump.STATE);
        Due.is("nothing changed", x.row(0, 0, 0), 0);
    }

    private static void with() {
        LastAtPump x = Due.street(0, 0, 0, 19, 0);
        Due.is("nobody of that number", x.with(2), LastAtPump.NONE);
        Due.is("nobody of number -1", x.with(-1), LastAtPump.NONE);
        Due.is("last", x.step(), 2);
        Due.is("who is last", x.told(3), 0);
        Due.is("a wrong one", x.with(2), LastAtPump.NONE);
        Due.is("who is last still", x.told(3), 0);
        Due.is("with", x.with(1), 0);
        Due.is("nobody is last", x.told(3), -5);
        Due.is("with whom", x.told(1), 1);
        Due.is("with again", x.with(1), 1);
        Due.is("step", x.told(0), 1);
        Due.is("last again", x.step(), 2);
        Due.is("the same one", x.with(1), 1);
        Due.is("nobody is last then", x.told(3), -5);
    }

    private static void weight() {
        LastAtPump x = new LastAtPump();
        Due.is("999", x.weight(999), 0);
        Due.is("0", x.weight(0), 999);
        Due.is("7", x.weight(7), 0);
        Due.is("1000", x.weight(1000), LastAtPump.BAD);
        Due.is("-1", x.weight(-1), LastAtPump.BAD);
        Due.is("stays", x.told(2), 7);
    }
}
