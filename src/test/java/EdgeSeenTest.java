/** The edges that the document names of what is SEEN, of ODDS and MEANS (terms 2; promises 20 to 24). */
public final class EdgeSeenTest {
    private static final int NONE = LastAtPump.NONE, BAD = LastAtPump.BAD, FULL = LastAtPump.FULL;
    private static final long NO = LastAtPump.NO;

    public static void main(String[] args) {
        seeSteps();
        seeNobody();
        seeNone();
        seeFull();
        seenFromNow();
        fromNoneSeen();
        fromAllOfSeen();
        fromBits();
        hadNumbers();
        hadNone();
        hadOne();
        hadRefuses();
        oddsSteps();
        oddsOfNobody();
        oddsParts();
        oddsInLowestTerms();
        meanSteps();
        meanParts();
        meanInLowestTerms();
        meanOfNobody();
        Due.end();
    }

    private static void seeSteps() {
        Due.words("SEEN told by hand: WITH whom it was behind n STEPS (0 .. 60); Promise 20: BAD: n");
        LastAtPump x = Due.street(0, 4, 0, 4, 0);
        Due.is("0", x.see(0, 0), 1);
        Due.is("60", x.see(0, 60), 2);
        for (int n : Due.outside(0, 60)) {
            Due.is("n " + n, x.see(1, n), BAD);
            Due.is("two", x.count(2), 2);
        }
        // They give it to each other: 0 has it behind 0 and 60.
        Due.is("0 it can be", x.from(), 1);
        x.see(0, 59);
        Due.is("59 it can't", x.from(), 0);
        x.see(-1, 0);
        x.see(1, 60);
        Due.is("1 behind 60", x.from(), 2);
        Due.is("by no hopes, as 0 has it", x.had(0, 0), 0);
    }

    private static void seeNobody() {
        Due.words("Promise 20: NONE");
        LastAtPump x = Due.street(0, 4, 0, 4, 0, 4, 0);
        Due.is("2", x.see(2, 0), 1);
        for (int p : new int[] {-2, 3, 6, Integer.MIN_VALUE, Integer.MAX_VALUE}) {
            Due.is("person " + p, x.see(p, 0), NONE);
            Due.is("person " + p + ", wrong n", x.see(p, 61), NONE);
        }
        Due.is("one", x.count(2), 1);
        Due.is("nobody there", new LastAtPump().see(0, 0), NONE);
    }

    private static void seeNone() {
        Due.words("Promise 20: (person -1: none then, 0, whatever the other is)");
        for (int other : new int[] {0, 60, 61, -1, Integer.MIN_VALUE, Integer.MAX_VALUE}) {
            LastAtPump x = Due.street(0, 4, 0, 4, 0);
            Due.is("none of none, other " + other, x.see(-1, other), 0);
            for (int k = 1; k <= 6; k++) {
                Due.is("seen", x.see(1, 0), k);
            }
            Due.is("1 alone", x.from(), 2);
            Due.is("none, other " + other, x.see(-1, other), 0);
            Due.is("none there", x.count(2), 0);
            Due.is("anyone", x.from(), 3);
            Due.is("first again", x.see(0, 0), 1);
        }
        Due.is("nobody there", new LastAtPump().see(-1, 0), 0);
    }

    private static void seeFull() {
        Due.words("SEEN .. (6 at most); Promise 20: how many there are .. FULL: 6");
        LastAtPump x = Due.street(0, 4, 0, 4, 0);
        for (int k = 1; k <= 6; k++) {
            Due.is("seen " + k, x.see(k % 2, k), k);
            Due.is("so many", x.count(2), k);
        }
        Due.is("the sixth is of it", x.from(), 1);
        for (int k = 0; k < 3; k++) {
            Due.is("a seventh", x.see(0, 1), FULL);
        }
        Due.is("a seventh, bad", x.see(0, 61), BAD);
        Due.is("a seventh of nobody", x.see(2, 1), NONE);
        Due.is("six", x.count(2), 6);
        Due.is("the seventh is not", x.from(), 1);
        LastAtPump y = Due.street(0, 4, 0, 4, 0);
        for (int k = 1; k <= 5; k++) {
            y.see(0, 0);
        }
        y.see(1, 0);
        Due.is("the sixth is looked at", y.from(), 0);
    }

    private static void seenFromNow() {
        Due.words("WITH whom it was behind n STEPS (0 .. 60) from now");
        LastAtPump x = Due.street(0, 0, 0, 5, 0, 8, 0);
        x.see(0, 0);
        Due.is("0 now", x.from(), 1);
        x.step();
        Due.is("0 now, whatever went", x.from(), 1);
        x.set(0, 0, 6);
        x.see(1, 1);
        Due.is("1 behind one, as the doors are now", x.from(), 1);
        x.set(0, 0, 7);
        Due.is("2 would be", x.from(), 0);
    }

    private static void fromNoneSeen() {
        Due.words("FROM: .. so that all of SEEN is so (none is SEEN)");
        Due.is("nobody", new LastAtPump().from(), 0);
        LastAtPump x = new LastAtPump();
        for (int n = 1; n <= 6; n++) {
            x.person(0, 0, 0, 0);
            Due.is("anyone of " + n, x.from(), (1 << n) - 1);
        }
    }

    private static void fromAllOfSeen() {
        Due.words("FROM: .. so that all of SEEN is so");
        LastAtPump x = Due.street(0, 0, 0, 5, 0, 8, 0);
        x.see(1, 1);
        Due.is("0 and 2 carry it to 1", x.from(), 5);
        x.see(1, 0);
        Due.is("1 carries it elsewhere", x.from(), 0);
        // At the END it stays.
        LastAtPump y = Due.street(0, 0, 0, 19, 0);
        for (int n = 0; n <= 60; n += 12) {
            y.see(1, n);
        }
        Due.is("1 has it on and on", y.from(), 2);
        // Alone none goes.
        LastAtPump z = Due.street(0, 0, 0);
        z.see(0, 0);
        z.see(0, 60);
        Due.is("alone", z.from(), 1);
    }

    private static void fromBits() {
        Due.words("FROM: those, as bits, whom it can be WITH now");
        for (int p = 0; p <= 5; p++) {
            LastAtPump x = Due.street(0, 4, 0, 4, 0, 4, 0, 4, 0, 4, 0, 4, 0);
            x.see(p, 0);
            Due.is("bit " + p, x.from(), 1 << p);
            x.with(5);
            Due.is("whoever has it", x.from(), 1 << p);
        }
    }

    /** 2 is SLY and has it; 0 hopes 4, 1 hopes as told. */
    private static LastAtPump sly(int hopes) {
        LastAtPump x = new LastAtPump();
        x.person(0, 0, 0, 4);
        x.person(0, 0, 0, hopes);
        x.person(3, 0, 0, 0);
        x.with(2);
        return x;
    }

    private static void hadNumbers() {
        Due.words("HAD of one: how many numbers (0 .. 9) there are by which .. all of SEEN is so; the least");
        LastAtPump x = sly(9);
        Due.all("none seen", new long[] {x.had(0, 0), x.had(0, 1)}, 10, 0);
        x.see(0, 1);
        Due.all("9 alone", new long[] {x.had(0, 0), x.had(0, 1)}, 1, 9);
        x.set(1, 1, 8);
        Due.all("8, 9", new long[] {x.had(0, 0), x.had(0, 1)}, 2, 8);
        x.set(1, 1, 0);
        Due.all("all", new long[] {x.had(0, 0), x.had(0, 1)}, 10, 0);
        LastAtPump y = sly(0);
        y.see(1, 1);
        Due.all("0 hopes: 1 can't", new long[] {y.had(0, 0), y.had(0, 1)}, 0, -5);
        y.set(1, 1, 1);
        Due.all("0 alone", new long[] {y.had(0, 0), y.had(0, 1)}, 1, 0);
        y.set(1, 1, 9);
        Due.all("0 to 8", new long[] {y.had(0, 0), y.had(0, 1)}, 9, 0);
        Due.is("they stay", y.of(0, 3), 4);
    }

    private static void hadNone() {
        Due.words("HAD: .. (-5: none)");
        LastAtPump x = sly(9);
        x.see(0, 0);
        for (int p = 0; p <= 2; p++) {
            Due.all("2 has it now", new long[] {x.had(p, 0), x.had(p, 1)}, 0, -5);
        }
        x.with(0);
        for (int p = 0; p <= 2; p++) {
            Due.all("0 has it now", new long[] {x.had(p, 0), x.had(p, 1)}, 10, 0);
        }
    }

    private static void hadOne() {
        Due.words("HAD: .. were that its HOPES now, all of SEEN is so (behind 60)");
        // It is LAST, or tells, behind so many STEPS as it hopes; by rain it can carry it no more behind 58.
        LastAtPump x = Due.street(0, 3, 9, 4, 9);
        Due.evening(x, "rain 1 s<10");
        x.see(0, 60);
        Due.all("they give it to each other", new long[] {x.had(0, 0), x.had(0, 1)}, 10, 0);
        x.see(0, 59);
        Due.all("it has it behind 60, not 59", new long[] {x.had(0, 0), x.had(0, 1)}, 0, -5);
        x.weight(38);
        Due.all("it keeps it behind 58", new long[] {x.had(0, 0), x.had(0, 1)}, 10, 0);
    }

    private static void hadRefuses() {
        Due.words("Promise 22: what 0 how many, 1 the least; -5. NONE.");
        LastAtPump x = sly(9);
        for (int what : Due.outside(0, 1)) {
            Due.is("what " + what, x.had(0, what), NONE);
        }
        for (int p : Due.outside(0, 2)) {
            Due.is("person " + p, x.had(p, 0), NONE);
            Due.is("person " + p + ", least", x.had(p, 1), NONE);
        }
        Due.is("nobody there", new LastAtPump().had(0, 0), NONE);
        Due.is("the last one", x.had(2, 1), 0);
    }

    private static void oddsSteps() {
        Due.words("ODDS of n STEPS (0 .. 99); Promise 23: NO");
        // Who begins is LAST behind 97 and what it hopes.
        LastAtPump x = Due.street(0, 3, 2, 4, 3);
        Due.evening(x, "rain 1 s<10");
        Due.all("0", new long[] {x.odds(0, 0), x.odds(0, 1)}, 0, 1);
        Due.all("98", new long[] {x.odds(98, 0), x.odds(98, 1)}, 0, 1);
        Due.all("99", new long[] {x.odds(99, 0), x.odds(99, 1)}, 1, 2);
        x.set(1, 1, 2);
        Due.all("99, both", new long[] {x.odds(99, 0), x.odds(99, 1)}, 1, 1);
        for (int n : Due.outside(0, 99)) {
            Due.is("n " + n, x.odds(n, 0), NO);
            Due.is("n " + n + ", below", x.odds(n, 1), NO);
        }
    }

    private static void oddsOfNobody() {
        Due.words("ODDS: .. (NO: nobody is there)");
        LastAtPump x = new LastAtPump();
        for (int n = 0; n <= 99; n += 33) {
            Due.is("above", x.odds(n, 0), NO);
            Due.is("below", x.odds(n, 1), NO);
        }
        x.person(0, 0, 0, 0);
        Due.all("one", new long[] {x.odds(99, 0), x.odds(99, 1)}, 0, 1);
    }

    private static void oddsParts() {
        Due.words("Promise 23: part 0 above, 1 below the line. NO.");
        LastAtPump x = Due.street(0, 0, 0, 19, 1);
        Due.all("1 of 2", new long[] {x.odds(1, 0), x.odds(1, 1)}, 1, 2);
        for (int part : Due.outside(0, 1)) {
            Due.is("part " + part, x.odds(1, part), NO);
        }
    }

    private static void oddsInLowestTerms() {
        Due.words("ODDS: .. a fraction in lowest terms");
        // The first so many of six are LAST at once: they hope nothing, and who hopes most is too far.
        long[] above = {0, 1, 1, 1, 2, 5, 1};
        long[] below = {1, 6, 3, 2, 3, 6, 1};
        for (int ended = 0; ended <= 6; ended++) {
            LastAtPump x = new LastAtPump();
            for (int p = 0; p <= 5; p++) {
                x.person(0, 0, 0, p < ended ? 0 : 1);
            }
            Due.evening(x, "far 0");
            for (int p = 0; p <= 5; p++) {
                x.set(p, 0, 3 * p);
            }
            Due.all(ended + " of 6", new long[] {x.odds(1, 0), x.odds(1, 1)}, above[ended], below[ended]);
        }
    }

    private static void meanSteps() {
        Due.words("MEAN of n STEPS (1 .. 60): WEIGHT behind 1, 2 .. n, together, by n; Promise 24: NO: n");
        LastAtPump x = Due.street(0, 3, 2, 4, 3);
        Due.evening(x, "rain 1 s<10");
        Due.all("1", new long[] {x.mean(1, 0), x.mean(1, 1)}, 1, 1);
        Due.all("2: 3 by 2", new long[] {x.mean(2, 0), x.mean(2, 1)}, 3, 2);
        Due.all("59: 1770 by 59", new long[] {x.mean(59, 0), x.mean(59, 1)}, 30, 1);
        Due.all("60: 1830 by 60", new long[] {x.mean(60, 0), x.mean(60, 1)}, 61, 2);
        for (int n : Due.outside(1, 60)) {
            Due.is("n " + n, x.mean(n, 0), NO);
            Due.is("n " + n + ", below", x.mean(n, 1), NO);
        }
        Due.is("nothing changes", x.told(2), 0);
    }

    private static void meanParts() {
        Due.words("Promise 24: part likewise. NO: .. part.");
        LastAtPump x = Due.street(0, 3, 2, 4, 3);
        for (int part : Due.outside(0, 1)) {
            Due.is("part " + part, x.mean(1, part), NO);
        }
    }

    private static void meanInLowestTerms() {
        Due.words("MEAN: .. a fraction in lowest terms");
        LastAtPump x = Due.street(0, 3, 2, 4, 3);
        Due.all("0 by 60", new long[] {x.mean(60, 0), x.mean(60, 1)}, 0, 1);
        Due.evening(x, "rain 1 s=0");
        Due.all("10 of 1, 2 of 2: 14 by 12", new long[] {x.mean(12, 0), x.mean(12, 1)}, 7, 6);
        x.weight(999);
        x.set(0, 0, 4);
        Due.all("999 on and on", new long[] {x.mean(60, 0), x.mean(60, 1)}, 999, 1);
        LastAtPump y = Due.street(0, 0, 0, 19, 0);
        y.weight(999);
        Due.all("at the end", new long[] {y.mean(60, 0), y.mean(60, 1)}, 999, 1);
        LastAtPump z = Due.street(0, 0, 1, 19, 0);
        z.weight(997);
        Due.all("999 at most", new long[] {z.mean(60, 0), z.mean(60, 1)}, 999, 1);
    }

    private static void meanOfNobody() {
        Due.words("MEAN: WEIGHT behind .. (none goes)");
        LastAtPump x = new LastAtPump();
        Due.all("nobody", new long[] {x.mean(1, 0), x.mean(1, 1)}, 0, 1);
        x.weight(7);
        Due.all("nobody, 7", new long[] {x.mean(60, 0), x.mean(60, 1)}, 7, 1);
        x.person(0, 0, 0, 0);
        Due.all("alone, 7", new long[] {x.mean(60, 0), x.mean(60, 1)}, 7, 1);
    }
}
