/** Promises 20 to 24: see, from, had, odds, mean. */
public final class SeenTest {
    public static void main(String[] args) {
        see();
        from();
        had();
        odds();
        mean();
        Due.end();
    }

    private static void see() {
        LastAtPump x = Due.street(0, 0, 2, 19, 1);
        Due.is("first", x.see(0, 0), 1);
        Due.is("second", x.see(1, 60), 2);
        Due.is("person 2", x.see(2, 61), LastAtPump.NONE);
        Due.is("person -2", x.see(-2, 0), LastAtPump.NONE);
        Due.is("n 61", x.see(0, 61), LastAtPump.BAD);
        Due.is("n -1", x.see(0, -1), LastAtPump.BAD);
        for (int k = 3; k <= 6; k++) {
            Due.is("seen " + k, x.see(0, 0), k);
        }
        Due.is("full", x.see(0, 0), LastAtPump.FULL);
        Due.is("n ahead of full", x.see(0, 61), LastAtPump.BAD);
        Due.is("none ahead of full", x.see(2, 0), LastAtPump.NONE);
        Due.is("six", x.count(2), 6);
        Due.is("none seen", x.see(-1, 999), 0);
        Due.is("none", x.count(2), 0);
        Due.is("first again", x.see(1, 1), 1);
        Due.is("nobody there", new LastAtPump().see(0, 0), LastAtPump.NONE);
        Due.is("nobody there, none seen", new LastAtPump().see(-1, -1), 0);
    }

    private static void from() {
        // 0 carries to 1, 1 to 2, 2 to 1.
        LastAtPump x = Due.street(0, 0, 0, 5, 0, 8, 0);
        Due.is("none seen: anyone", x.from(), 7);
        x.see(1, 1);
        Due.is("1 behind one", x.from(), 5);
        x.see(2, 2);
        Due.is("and 2 behind two", x.from(), 5);
        x.see(0, 0);
        Due.is("and 0 now", x.from(), 1);
        x.see(2, 60);
        Due.is("and 2 behind sixty", x.from(), 1);
        x.see(2, 59);
        Due.is("it can't be both", x.from(), 0);
        x.see(-1, 0);
        x.see(1, 60);
        Due.is("1 behind sixty", x.from(), 2);
        x.step();
        Due.is("from now, as it is then", x.from(), 2);
        // If fewer go: whom it is WITH then.
        LastAtPump y = Due.street(0, 0, 1, 19, 0);
        y.see(1, 30);
        Due.is("1 at the end", y.from(), 2);
        y.step();
        y.step();
        Due.is("0 is last", y.told(3), 0);
        Due.is("nobody is last any more", y.from(), 2);
        Due.is("nobody there", new LastAtPump().from(), 0);
    }

    private static void had() {
        // 3 is SLY: it would carry it to whoever hopes most.
        LastAtPump x = new LastAtPump();
        x.person(0, 0, 0, 4);
        x.person(0, 0, 1, 6);
        x.person(3, 0, 2, 0);
        x.with(2);
        Due.all("none seen", new long[] {x.had(0, 0), x.had(0, 1), x.had(2, 0), x.had(2, 1)}, 10, 0, 10, 0);
        x.see(0, 1);
        Due.all("0 behind one", new long[] {x.had(0, 0), x.had(0, 1)}, 4, 6);
        Due.all("0 behind one: of 1", new long[] {x.had(1, 0), x.had(1, 1)}, 5, 0);
        Due.all("0 behind one: of 2", new long[] {x.had(2, 0), x.had(2, 1)}, 0, -5);
        x.see(2, 0);
        Due.all("2 now", new long[] {x.had(0, 0), x.had(0, 1)}, 4, 6);
        x.see(1, 0);
        Due.all("1 now too", new long[] {x.had(0, 0), x.had(0, 1)}, 0, -5);
        Due.is("what 2", x.had(0, 2), LastAtPump.NONE);
        Due.is("what -1", x.had(0, -1), LastAtPump.NONE);
        Due.is("person 3", x.had(3, 0), LastAtPump.NONE);
        Due.is("person -1", x.had(-1, 1), LastAtPump.NONE);
        Due.is("hopes stay", x.of(0, 3), 4);
        // Who is LAST stays so: no STEP goes by any number.
        LastAtPump y = Due.street(0, 0, 0, 19, 0);
        y.step();
        y.see(0, 60);
        Due.all("at the end", new long[] {y.had(0, 0), y.had(0, 1), y.had(1, 0), y.had(1, 1)}, 10, 0, 10, 0);
    }

    private static void odds() {
        LastAtPump x = Due.street(0, 0, 2, 19, 1);
        Due.all("0", new long[] {x.odds(0, 0), x.odds(0, 1)}, 0, 1);
        Due.all("1", new long[] {x.odds(1, 0), x.odds(1, 1)}, 0, 1);
        Due.all("2", new long[] {x.odds(2, 0), x.odds(2, 1)}, 1, 2);
        Due.all("3", new long[] {x.odds(3, 0), x.odds(3, 1)}, 1, 1);
        Due.all("99", new long[] {x.odds(99, 0), x.odds(99, 1)}, 1, 1);
        Due.is("100", x.odds(100, 0), LastAtPump.NO);
        Due.is("-1", x.odds(-1, 0), LastAtPump.NO);
        Due.is("part 2", x.odds(1, 2), LastAtPump.NO);
        Due.is("part -1", x.odds(1, -1), LastAtPump.NO);
        Due.is("nobody", new LastAtPump().odds(1, 1), LastAtPump.NO);
        Due.is("alone", Due.street(0, 1, 1).odds(99, 1), 1);
        // 0, 1, 2, 3 end at once, 4 and 5 never.
        LastAtPump y = Due.street(3, 0, 0, 1, 0, 2, 0, 3, 0, 19, 0, 18, 9);
        Due.all("four of six", new long[] {y.odds(1, 0), y.odds(1, 1)}, 2, 3);
        y.set(4, 0, 0);
        Due.all("five of six", new long[] {y.odds(1, 0), y.odds(1, 1)}, 5, 6);
        x.with(0);
        x.set(0, 1, 0);
        x.step();
        Due.all("nobody is last any more", new long[] {x.odds(0, 0), x.odds(0, 1)}, 0, 1);
    }

    private static void mean() {
        LastAtPump x = Due.street(0, 0, 2, 19, 1);
        Due.all("1", new long[] {x.mean(1, 0), x.mean(1, 1)}, 5, 1);
        Due.all("2", new long[] {x.mean(2, 0), x.mean(2, 1)}, 15, 2);
        Due.all("3", new long[] {x.mean(3, 0), x.mean(3, 1)}, 25, 3);
        Due.all("60", new long[] {x.mean(60, 0), x.mean(60, 1)}, 119, 12);
        Due.is("0", x.mean(0, 0), LastAtPump.NO);
        Due.is("61", x.mean(61, 0), LastAtPump.NO);
        Due.is("part 2", x.mean(1, 2), LastAtPump.NO);
        Due.is("part -1", x.mean(1, -1), LastAtPump.NO);
        LastAtPump nobody = new LastAtPump();
        Due.all("nobody", new long[] {nobody.mean(9, 0), nobody.mean(9, 1)}, 0, 1);
        nobody.weight(999);
        Due.all("nobody by 999", new long[] {nobody.mean(60, 0), nobody.mean(60, 1)}, 999, 1);
        for (int k = 0; k < 3; k++) {
            x.step();
        }
        Due.all("at the end", new long[] {x.mean(7, 0), x.mean(7, 1)}, 10, 1);
        Due.is("nothing changed", x.told(0), 3);
    }
}
