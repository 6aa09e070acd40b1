/** Promises 11 to 14: step, on, ends, longest. */
public final class StepTest {
    public static void main(String[] args) {
        tellsUntilLast();
        carries();
        rainIsOfWhoHadIt();
        weightIsHeld();
        tellsByWhatIsWithinReach();
        on();
        ends();
        longest();
        Due.end();
    }

    private static void tellsUntilLast() {
        LastAtPump x = Due.street(0, 0, 2, 19, 1);
        Due.is("tells", x.step(), 1);
        Due.all("then", new long[] {x.told(0), x.told(1), x.told(2), x.told(3), x.of(0, 3), x.of(0, 4)},
                1, 0, 5, -5, 1, 1);
        Due.is("tells again", x.step(), 1);
        Due.all("then", new long[] {x.told(0), x.told(1), x.told(2), x.told(3), x.of(0, 3), x.of(0, 4)},
                2, 0, 10, -5, 0, 2);
        Due.is("is last", x.step(), 2);
        Due.all("then", new long[] {x.told(0), x.told(1), x.told(2), x.told(3), x.of(0, 3), x.of(0, 4)},
                3, 0, 10, 0, 0, 2);
        Due.is("the end", x.step(), LastAtPump.STATE);
        Due.is("no step went", x.told(0), 3);
        x.set(0, 1, 5);
        Due.is("the end still", x.step(), LastAtPump.STATE);
        LastAtPump alone = Due.street(0, 0, 2);
        Due.is("alone", alone.step(), LastAtPump.STATE);
        Due.is("no step goes alone", alone.told(0), 0);
    }

    private static void carries() {
        LastAtPump x = Due.street(0, 0, 1, 12, 1, 18, 1);
        Due.is("0 to 1", x.step(), 0);
        Due.is("with 1", x.told(1), 1);
        Due.is("1 to 2", x.step(), 0);
        Due.is("with 2", x.told(1), 2);
        Due.is("2 to 1", x.step(), 0);
        Due.is("with 1 again", x.told(1), 1);
        Due.is("nobody told", x.of(0, 4) + x.of(1, 4) + x.of(2, 4), 0);
        Due.is("no rain", x.told(2), 0);
        LastAtPump y = Due.street(0, 0, 1, 13, 1);
        Due.is("13 is too far", y.step(), 1);
    }

    private static void rainIsOfWhoHadIt() {
        LastAtPump x = Due.street(0, 0, 3, 2, 8);
        Due.evening(x, "rain 7 p=0;rain 20 p=1&w<1;rain 40 p=1&w>0;dry 1 s=1;dry 5 h=3");
        Due.is("0 to 1", x.step(), 0);
        Due.is("7 less 5", x.told(2), 2);
        Due.is("1 to 0", x.step(), 0);
        Due.is("w ahead of the step: 20 less 1", x.told(2), 21);
        Due.is("0 to 1", x.step(), 0);
        Due.is("and 2", x.told(2), 23);
        Due.is("1 to 0", x.step(), 0);
        Due.is("and 40", x.told(2), 63);
    }

    private static void weightIsHeld() {
        LastAtPump x = Due.street(0, 5, 3, 5, 8);
        Due.evening(x, "rain 99 p=0;dry 99 p=1");
        x.weight(950);
        Due.is("carried", x.step(), 0);
        Due.is("999 at most", x.told(2), 999);
        x.weight(50);
        Due.is("carried", x.step(), 0);
        Due.is("0 at least", x.told(2), 0);
        LastAtPump y = Due.street(0, 5, 3, 19, 8);
        Due.evening(y, "far 3;cost 60;rain 10 s<99");
        y.weight(950);
        Due.is("told", y.step(), 1);
        Due.is("999 at most by what is told", y.told(2), 999);
        y.weight(0);
        Due.is("told", y.step(), 1);
        Due.is("cost and no rain", y.told(2), 60);
    }

    private static void tellsByWhatIsWithinReach() {
        // A CHILD that reaches 2 passes over who is nearer; who is too heavy for it tells.
        LastAtPump x = Due.street(2, 0, 1, 1, 1, 2, 1, 19, 1);
        x.weight(999);
        Due.is("0 to 2", x.step(), 0);
        Due.is("with 2", x.told(1), 2);
        x.with(3);
        Due.is("nobody within", x.step(), 1);
        Due.is("with 3", x.told(1), 3);
        // A SLY one asks who hopes most, however far.
        LastAtPump y = Due.street(3, 0, 1, 1, 1, 19, 2);
        Due.is("tells", y.step(), 1);
        y.set(1, 1, 3);
        Due.is("0 to 1", y.step(), 0);
        Due.is("with 1", y.told(1), 1);
        // Hopes are as they are ahead of the step.
        Due.is("1 to 2, not within", y.step(), 1);
        Due.is("still", y.told(1), 1);
    }

    private static void on() {
        LastAtPump x = Due.street(0, 0, 2, 19, 1);
        Due.all("with", new long[] {x.on(0, 0), x.on(3, 0), x.on(99, 0)}, 0, 0, 0);
        Due.all("weight", new long[] {x.on(0, 1), x.on(1, 1), x.on(2, 1), x.on(3, 1), x.on(99, 1)}, 0, 5, 10, 10, 10);
        Due.all("last", new long[] {x.on(0, 2), x.on(2, 2), x.on(3, 2), x.on(99, 2)}, -5, -5, 0, 0);
        Due.all("hopes", new long[] {x.on(0, 10), x.on(1, 10), x.on(2, 10), x.on(3, 10), x.on(9, 11)}, 2, 1, 0, 0, 1);
        Due.all("said", new long[] {x.on(0, 20), x.on(1, 20), x.on(2, 20), x.on(3, 20), x.on(9, 21)}, 0, 1, 2, 2, 0);
        for (int what : new int[] {-1, 3, 9, 12, 15, 16, 19, 22, 25, 26, 30, Integer.MIN_VALUE, Integer.MAX_VALUE}) {
            Due.is("what " + what, x.on(100, what), LastAtPump.NONE);
        }
        Due.is("n 100", x.on(100, 0), LastAtPump.BAD);
        Due.is("n -1", x.on(-1, 20), LastAtPump.BAD);
        Due.all("nothing changed", new long[] {x.told(0), x.told(2), x.of(0, 3), x.of(0, 4)}, 0, 0, 2, 0);
        LastAtPump nobody = new LastAtPump();
        Due.all("nobody", new long[] {nobody.on(5, 0), nobody.on(5, 1), nobody.on(5, 2), nobody.on(5, 10)},
                -5, 0, -5, -1);
        LastAtPump six = Due.street(0, 1, 9, 1, 8, 1, 7, 1, 6, 1, 5, 1, 4);
        Due.all("six", new long[] {six.on(9, 15), six.on(9, 25), six.on(9, 16), six.on(9, 26)}, 4, 0, -1, -1);
    }

    private static void ends() {
        LastAtPump x = Due.street(0, 0, 2, 19, 1);
        Due.is("three", x.ends(), 3);
        x.step();
        Due.is("two", x.ends(), 2);
        x.step();
        x.step();
        Due.is("now", x.ends(), 0);
        x.set(1, 0, 1);
        x.with(0);
        Due.is("not by then", x.ends(), -5);
        Due.is("alone", Due.street(0, 0, 0).ends(), -5);
        // They stand 1 apart and reach so far up to 95; by rain of 1 a step it is 96 behind 96 steps, and 0 has it.
        LastAtPump y = Due.street(0, 3, 9, 4, 1);
        Due.evening(y, "rain 1 s<10");
        Due.is("behind 106", y.ends(), -5);
        y.set(0, 1, 0);
        Due.is("rain 1: behind 97", y.ends(), 97);
        y.set(0, 1, 2);
        Due.is("behind 99", y.ends(), 99);
        y.set(0, 1, 3);
        Due.is("behind 100", y.ends(), -5);
    }

    private static void longest() {
        Due.is("nobody", new LastAtPump().longest(), -5);
        Due.is("alone", Due.street(0, 3, 0).longest(), 0);
        LastAtPump x = Due.street(0, 0, 1, 19, 2);
        Due.is("who hopes more", x.longest(), 1);
        x.set(0, 1, 2);
        Due.is("the first of two", x.longest(), 0);
        LastAtPump y = Due.street(0, 0, 9, 18, 0, 19, 0);
        Due.is("not by 99 is later than any", y.longest(), 1);
        // Nobody is LAST any more, though 0 is.
        LastAtPump z = Due.street(0, 0, 0, 19, 1);
        z.step();
        Due.is("0 is last", z.told(3), 0);
        Due.is("1 may begin", z.longest(), 1);
        z.set(1, 1, 0);
        Due.is("both end at once", z.longest(), 0);
        Due.is("0 is last still", z.told(3), 0);
    }
}
