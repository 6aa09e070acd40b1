/** The edges that the document names of REACH, WAY, TO whom, STEPS (terms 1, the second indented text; promise 11). */
public final class EdgeStepTest {
    private static final int STATE = LastAtPump.STATE;
    private static final int PERSON = 0, OLD = 1, CHILD = 2, SLY = 3, WEARY = 4, DREADFUL = 5, TOLD = 6;

    public static void main(String[] args) {
        weightByEight();
        reachOfFar();
        halfOfV();
        childAndTwo();
        halfOfOld();
        dreadfulByMultiples();
        toldByRow();
        zeroAtLeast();
        zeroAtLeastInItself();
        way();
        shortest();
        shortestOfSeveral();
        longestWithin();
        longestWithinOfSeveral();
        noneIsWithin();
        mostHopes();
        mostHopesOfSeveral();
        noneAtTheEnd();
        noneOfFewerThanTwo();
        noMoreThanReach();
        rainIsHeld();
        hopesOrLast();
        costAtMost();
        costAtLeast();
        aheadOfTheStep();
        stepIsOneMore();
        whatStepAnswers();
        stepIs9999();
        Due.end();
    }

    private static int reach(int kind, int v, int far, int weight) {
        LastAtPump x = new LastAtPump();
        x.person(kind, v, 3, 0);
        Due.evening(x, "far " + far);
        x.weight(weight);
        return x.of(0, 5);
    }

    /** The first is of a KIND and v 9, the others are PERSONS: doors, hopes. */
    private static LastAtPump one(int kind, int... doorsAndHopes) {
        LastAtPump x = new LastAtPump();
        for (int k = 0; k < doorsAndHopes.length; k += 2) {
            x.person(k == 0 ? kind : PERSON, 9, doorsAndHopes[k], doorsAndHopes[k + 1]);
        }
        return x;
    }

    private static void weightByEight() {
        Due.words("PERSON, SLY: FAR, less WEIGHT by 8 (cut).");
        for (int kind : new int[] {PERSON, SLY, TOLD}) {
            Due.is("0", reach(kind, 9, 12, 0), 12);
            Due.is("7", reach(kind, 9, 12, 7), 12);
            Due.is("8", reach(kind, 9, 12, 8), 11);
            Due.is("15", reach(kind, 9, 12, 15), 11);
            Due.is("16", reach(kind, 9, 12, 16), 10);
            Due.is("87", reach(kind, 9, 12, 87), 2);
            Due.is("88", reach(kind, 9, 12, 88), 1);
            Due.is("95", reach(kind, 9, 12, 95), 1);
            Due.is("96", reach(kind, 9, 12, 96), 0);
        }
    }

    private static void reachOfFar() {
        Due.words("REACH of a PERSON: PERSON, SLY: FAR (at its utmost)");
        Due.is("far 0", reach(PERSON, 0, 0, 0), 0);
        Due.is("far 1", reach(PERSON, 0, 1, 0), 1);
        Due.is("far 99", reach(PERSON, 0, 99, 0), 99);
        Due.is("far 99 at 791", reach(PERSON, 0, 99, 791), 1);
        Due.is("far 99 at 792", reach(PERSON, 0, 99, 792), 0);
        Due.is("far 99 at 999", reach(PERSON, 0, 99, 999), 0);
    }

    private static void halfOfV() {
        Due.words("OLD: as PERSON, less the half of v (cut).");
        int[] due = {12, 12, 11, 11, 10, 10, 9, 9, 8, 8};
        for (int v = 0; v <= 9; v++) {
            Due.is("v " + v, reach(OLD, v, 12, 0), due[v]);
            Due.is("no other kind's, v " + v, reach(PERSON, v, 12, 0), 12);
        }
    }

    private static void childAndTwo() {
        Due.words("CHILD: as PERSON, and 2.");
        Due.is("12", reach(CHILD, 9, 12, 0), 14);
        Due.is("0", reach(CHILD, 9, 0, 0), 2);
        Due.is("99", reach(CHILD, 9, 99, 0), 101);
        Due.is("1", reach(CHILD, 9, 12, 95), 3);
    }

    private static void halfOfOld() {
        Due.words("WEARY: the half (cut) of what OLD has.");
        int[] due = {6, 6, 5, 5, 5, 5, 4, 4, 4, 4};
        for (int v = 0; v <= 9; v++) {
            Due.is("v " + v, reach(WEARY, v, 12, 0), due[v]);
        }
        Due.is("half of 0", reach(WEARY, 0, 0, 0), 0);
        Due.is("half of 1", reach(WEARY, 0, 1, 0), 0);
        Due.is("half of 2", reach(WEARY, 0, 2, 0), 1);
        Due.is("half of 99", reach(WEARY, 0, 99, 0), 49);
        Due.is("half of 95", reach(WEARY, 9, 99, 0), 47);
    }

    private static void dreadfulByMultiples() {
        Due.words("DREADFUL: as CHILD, but 0, if STEP is a multiple of v and 2.");
        for (int first = 0; first <= 6; first += 3) {
            LastAtPump x = Due.street(0, 9, 0, 9, 0);
            for (int p = 2; p <= 5; p++) {
                x.person(DREADFUL, first + p - 2, 0, 0);
            }
            for (int step = 0; step <= 24; step++) {
                for (int p = 2; p <= 5; p++) {
                    int v = first + p - 2;
                    boolean isMultiple = false;
                    for (int multiple = 0; multiple <= step; multiple += v + 2) {
                        isMultiple |= multiple == step;
                    }
                    Due.is("v " + v + ", step " + step, x.of(p, 5), isMultiple ? 0 : 14);
                }
                Due.is("carried", x.step(), 0);
            }
        }
    }

    private static void toldByRow() {
        Due.words("TOLD: as SLY, and its ROW at STEP modulo 4 more.");
        LastAtPump x = Due.street(0, 9, 0, 9, 0);
        x.person(TOLD, 9, 0, 0);
        int[] row = {9, 0, 4, 1};
        for (int part = 0; part <= 3; part++) {
            x.row(2, part, row[part]);
        }
        for (int step = 0; step <= 9; step++) {
            Due.is("step " + step, x.of(2, 5), 12 + row[step % 4]);
            x.step();
        }
        Due.is("none by its row at first", reach(TOLD, 9, 12, 0), 12);
    }

    private static void zeroAtLeast() {
        Due.words("Each of these is 0 at least");
        for (int kind : new int[] {PERSON, OLD, SLY, WEARY, DREADFUL, TOLD}) {
            Due.is("kind " + kind + " at 999", reach(kind, 9, 12, 999), 0);
            Due.is("kind " + kind + " of far 0 at 999", reach(kind, 9, 0, 999), 0);
        }
        Due.is("old: 5 less 4", reach(OLD, 9, 5, 0), 1);
        Due.is("old: 4 less 4", reach(OLD, 9, 4, 0), 0);
        Due.is("old: 3 less 4", reach(OLD, 9, 3, 0), 0);
        Due.is("old: 0 less 4", reach(OLD, 9, 0, 0), 0);
        Due.is("weary: the half of none", reach(WEARY, 9, 0, 0), 0);
    }

    private static void zeroAtLeastInItself() {
        Due.words("Each of these is 0 at least, in itself.");
        // What is as another one, is as that one is: 0, not below.
        Due.is("child: 0 and 2", reach(CHILD, 0, 12, 999), 2);
        Due.is("child of far 0: 0 and 2", reach(CHILD, 0, 0, 8), 2);
        LastAtPump x = Due.street(0, 9, 0, 9, 0);
        x.person(TOLD, 0, 0, 0);
        x.person(DREADFUL, 9, 0, 0);
        x.row(2, 1, 9);
        x.step();
        x.weight(999);
        Due.is("told: 0 and 9", x.of(2, 5), 9);
        Due.is("dreadful: 0 and 2", x.of(3, 5), 2);
    }

    private static void way() {
        Due.words("WAY to another one: how far both DOORS are apart.");
        for (int[] doors : new int[][] {{0, 19, 19}, {19, 0, 19}, {4, 4, 0}, {4, 5, 1}, {5, 4, 1}}) {
            LastAtPump x = Due.street(0, doors[0], 9, doors[1], 9);
            Due.evening(x, "far " + doors[2]);
            Due.is("as far as that", x.step(), 0);
            if (doors[2] > 0) {
                LastAtPump y = Due.street(0, doors[0], 9, doors[1], 9);
                Due.evening(y, "far " + (doors[2] - 1));
                Due.is("not as far as that", y.step(), 1);
            }
        }
    }

    private static void shortest() {
        Due.words("PERSON, OLD, WEARY: that other one to whom the WAY is shortest");
        for (int kind : new int[] {PERSON, OLD, WEARY}) {
            Due.is("the last", one(kind, 9, 9, 0, 9, 19, 9, 8, 0).of(0, 6), 3);
            Due.is("at its door", one(kind, 9, 9, 8, 9, 9, 0, 10, 9).of(0, 6), 2);
            Due.is("the only one, too far", one(kind, 0, 9, 19, 0).of(0, 6), 1);
            LastAtPump x = one(kind, 0, 0, 19, 0);
            x.weight(999);
            Due.is("REACH does not matter", x.of(0, 6), 1);
        }
    }

    private static void shortestOfSeveral() {
        Due.words("the WAY is shortest (of several the first)");
        for (int kind : new int[] {PERSON, OLD, WEARY}) {
            Due.is("on both sides", one(kind, 9, 0, 0, 0, 11, 0, 7, 9, 11, 9).of(0, 6), 2);
            Due.is("at one door", one(kind, 9, 0, 3, 0, 3, 9).of(0, 6), 1);
            Due.is("all at its own", one(kind, 9, 0, 9, 0, 9, 9, 9, 9).of(0, 6), 1);
        }
    }

    /** One at door 3 of CHILD, or DREADFUL at STEP 1: 14 is how far it reaches. */
    private static LastAtPump reacher(int kind, int... doors) {
        LastAtPump x = one(kind, 3, 0);
        for (int door : doors) {
            x.person(PERSON, 0, door, 0);
        }
        x.set(0, 0, doors[0]);
        x.with(1);
        Due.is("a step", x.step(), 0);
        x.set(0, 0, 3);
        return x;
    }

    private static void longestWithin() {
        Due.words("CHILD, DREADFUL: that other one to whom the WAY is longest of those within REACH");
        for (int kind : new int[] {CHILD, DREADFUL}) {
            Due.is("14 is within", reacher(kind, 4, 17, 16).of(0, 6), 2);
            Due.is("15 is not", reacher(kind, 4, 18, 16).of(0, 6), 3);
            Due.is("at its own door alone", reacher(kind, 3, 18, 19).of(0, 6), 1);
            LastAtPump x = reacher(kind, 3, 5, 6);
            x.weight(999);
            Due.is("2 is within, 3 is not", x.of(0, 6), 2);
            LastAtPump first = Due.street(0, 14, 0, 13, 0);
            first.step();
            first.person(kind, 9, 0, 0);
            Due.is("the first of all", first.of(2, 6), 0);
        }
        LastAtPump x = one(DREADFUL, 3, 0, 4, 0, 3, 0, 17, 0);
        Due.is("dreadful at step 0: its own door is within 0", x.of(0, 6), 2);
    }

    private static void longestWithinOfSeveral() {
        Due.words("the WAY is longest of those within REACH (of several the first)");
        for (int kind : new int[] {CHILD, DREADFUL}) {
            Due.is("at one door", reacher(kind, 4, 17, 17, 18).of(0, 6), 2);
            LastAtPump x = reacher(kind, 4, 5, 1, 2);
            x.set(0, 0, 3);
            Due.is("on both sides", x.of(0, 6), 2);
            Due.is("all at its own", reacher(kind, 3, 3, 3).of(0, 6), 1);
        }
    }

    private static void noneIsWithin() {
        Due.words("none is within: as PERSON");
        LastAtPump x = one(CHILD, 3, 0, 19, 9, 18, 0, 18, 9);
        Due.is("nearest, the first of two", x.of(0, 6), 2);
        x.set(3, 0, 17);
        Due.is("one is within", x.of(0, 6), 3);
        x.weight(8);
        Due.is("none is", x.of(0, 6), 3);
        LastAtPump y = one(DREADFUL, 3, 0, 10, 9, 2, 0, 4, 9);
        Due.is("dreadful at step 0", y.of(0, 6), 2);
        Due.is("it can't", y.step(), 2);
    }

    private static void mostHopes() {
        Due.words("SLY, TOLD: that other one who has most HOPES");
        for (int kind : new int[] {SLY, TOLD}) {
            Due.is("its own don't count", one(kind, 9, 9, 9, 0, 0, 1, 9, 0).of(0, 6), 2);
            Due.is("the last", one(kind, 9, 0, 9, 7, 9, 8, 19, 9).of(0, 6), 3);
            LastAtPump x = one(kind, 0, 0, 19, 9, 0, 8);
            x.weight(999);
            Due.is("REACH does not matter", x.of(0, 6), 1);
        }
    }

    private static void mostHopesOfSeveral() {
        Due.words("who has most HOPES (of several the first)");
        for (int kind : new int[] {SLY, TOLD}) {
            Due.is("two", one(kind, 9, 9, 9, 0, 0, 4, 9, 4).of(0, 6), 2);
            Due.is("all have none", one(kind, 9, 9, 0, 0, 9, 0).of(0, 6), 1);
            LastAtPump x = one(PERSON, 0, 5, 0, 5, 0, 5);
            x.person(kind, 0, 0, 5);
            Due.is("all have 5", x.of(3, 6), 0);
        }
    }

    private static void noneAtTheEnd() {
        Due.words("A STEP goes (none does at the END ..); Promise 11: STATE: none goes");
        LastAtPump x = Due.street(0, 0, 0, 19, 9);
        Due.is("last", x.step(), 2);
        x.set(0, 1, 9);
        x.set(1, 0, 0);
        for (int k = 0; k < 3; k++) {
            Due.is("none", x.step(), STATE);
        }
        Due.all("nothing changes", new long[] {x.told(0), x.told(1), x.told(2), x.told(3), x.of(0, 3), x.of(0, 4)},
                1, 0, 0, 0, 9, 0);
    }

    private static void noneOfFewerThanTwo() {
        Due.words("A STEP goes (none does .. if there are fewer than two)");
        LastAtPump x = new LastAtPump();
        Due.is("nobody", x.step(), STATE);
        Due.is("step", x.told(0), 0);
        x.person(0, 0, 9, 0);
        Due.is("one", x.step(), STATE);
        Due.all("nothing changes", new long[] {x.told(0), x.told(2), x.told(3)}, 0, 0, -5);
        x.person(0, 0, 9, 0);
        Due.is("two", x.step(), 0);
        Due.is("step then", x.told(0), 1);
    }

    private static void noMoreThanReach() {
        Due.words("If the WAY to Q is no more than REACH of P, it is WITH Q then");
        LastAtPump x = Due.street(0, 0, 9, 12, 9);
        Due.is("12 of 12", x.step(), 0);
        Due.is("with 1", x.told(1), 1);
        x.weight(7);
        Due.is("12 of 12 by 7", x.step(), 0);
        Due.is("with 0", x.told(1), 0);
        x.weight(8);
        Due.is("12 of 11", x.step(), 1);
        Due.is("with 0 still", x.told(1), 0);
        LastAtPump y = Due.street(0, 4, 0, 4, 0);
        y.weight(999);
        Due.is("0 of 0", y.step(), 0);
        y.set(0, 0, 5);
        Due.is("1 of 0", y.step(), 2);
    }

    private static int carriedBy(int weight, String rain) {
        LastAtPump x = Due.street(0, 4, 0, 4, 0);
        Due.evening(x, rain);
        x.weight(weight);
        Due.is("carried", x.step(), 0);
        return x.told(2);
    }

    private static void rainIsHeld() {
        Due.words("WEIGHT is RAIN of P more (held to 0 .. 999)");
        Due.is("998", carriedBy(990, "rain 8 p=0"), 998);
        Due.is("999", carriedBy(990, "rain 9 p=0"), 999);
        Due.is("1000", carriedBy(990, "rain 10 p=0"), 999);
        Due.is("999 and 99", carriedBy(999, "rain 99 p=0"), 999);
        Due.is("999 and 0", carriedBy(999, "rain 0 p=0"), 999);
        Due.is("1", carriedBy(10, "dry 9 p=0"), 1);
        Due.is("0", carriedBy(10, "dry 10 p=0"), 0);
        Due.is("-1", carriedBy(10, "dry 11 p=0"), 0);
        Due.is("0 less 99", carriedBy(0, "dry 99 p=0"), 0);
        Due.is("together, not one by one", carriedBy(990, "rain 99 p=0;dry 95 p=0"), 994);
        Due.is("together, from 0 on", carriedBy(0, "dry 99 p=0;rain 95 p=0;rain 5 p=0"), 1);
        Due.is("of P, not of Q", carriedBy(100, "rain 7 p=1;rain 1 p=0"), 101);
    }

    private static void hopesOrLast() {
        Due.words("Else, if P has HOPES, P tells: its HOPES are 1 less, SAID 1 more ..; if it has none, P is LAST.");
        LastAtPump x = Due.street(0, 0, 2, 19, 9);
        Due.is("2", x.step(), 1);
        Due.all("hopes, said", new long[] {x.of(0, 3), x.of(0, 4), x.told(3)}, 1, 1, -5);
        Due.is("1", x.step(), 1);
        Due.all("hopes, said", new long[] {x.of(0, 3), x.of(0, 4), x.told(3)}, 0, 2, -5);
        Due.is("0", x.step(), 2);
        Due.all("hopes, said", new long[] {x.of(0, 3), x.of(0, 4), x.told(3)}, 0, 2, 0);
        Due.all("of the other", new long[] {x.of(1, 3), x.of(1, 4)}, 9, 0);
        Due.is("no cost by what is not told", x.told(2), 10);
    }

    private static int toldBy(int weight, String cost) {
        LastAtPump x = Due.street(0, 0, 1, 19, 0);
        Due.evening(x, cost + ";far 0;rain 50 p=0");
        x.weight(weight);
        Due.is("told", x.step(), 1);
        return x.told(2);
    }

    private static void costAtMost() {
        Due.words("WEIGHT is COST more (999 at most)");
        Due.is("998", toldBy(990, "cost 8"), 998);
        Due.is("999", toldBy(990, "cost 9"), 999);
        Due.is("1000", toldBy(990, "cost 10"), 999);
        Due.is("999 and 99", toldBy(999, "cost 99"), 999);
    }

    private static void costAtLeast() {
        Due.words("WEIGHT is COST more (without, and 0)");
        Due.is("5 without", toldBy(0, "cost 1;cost 05"), 5);
        Due.is("0", toldBy(0, "cost 0"), 0);
        Due.is("99", toldBy(0, "cost 99"), 99);
        LastAtPump x = Due.street(0, 0, 1, 19, 0);
        x.step();
        Due.is("5 of no evening", x.told(2), 5);
    }

    private static void aheadOfTheStep() {
        Due.words("All by how it is ahead of the STEP.");
        Due.is("s is 0 at the first", carriedBy(0, "rain 7 s=0;rain 70 s=1"), 7);
        Due.is("w is what it was", carriedBy(9, "rain 7 w=0;rain 70 w>0"), 16);
        LastAtPump x = Due.street(3, 0, 9, 1, 5, 19, 4);
        x.with(1);
        Due.is("1 carries it to 0", x.step(), 0);
        Due.is("with 0", x.told(1), 0);
        LastAtPump y = Due.street(3, 0, 1, 19, 1, 1, 1);
        y.with(1);
        Due.is("1 tells: its hopes were 1", y.step(), 1);
        Due.is("and by what it told, 5", y.told(2), 5);
        // TOLD by its row at STEP 0: 12 and 7; at STEP 1 it would be 12 alone.
        LastAtPump told = Due.street(6, 0, 0, 19, 0);
        told.row(0, 0, 7);
        Due.is("the row of STEP 0", told.step(), 0);
        LastAtPump other = Due.street(6, 0, 0, 19, 0);
        other.row(0, 1, 7);
        Due.is("not that of STEP 1", other.step(), 2);
    }

    private static void stepIsOneMore() {
        Due.words("STEP is 1 more.");
        LastAtPump x = Due.street(0, 0, 1, 12, 9);
        Due.is("carried", x.step(), 0);
        Due.is("1", x.told(0), 1);
        x.with(0);
        x.weight(8);
        Due.is("told", x.step(), 1);
        Due.is("2", x.told(0), 2);
        Due.is("last", x.step(), 2);
        Due.is("3", x.told(0), 3);
        Due.is("none goes", x.step(), STATE);
        Due.is("3 still", x.told(0), 3);
        x.with(1);
        Due.is("with() is no STEP", x.told(0), 3);
    }

    private static void whatStepAnswers() {
        Due.words("Promise 11: 0 it was carried, 1 it was told, 2 somebody is LAST. STATE: none goes");
        LastAtPump x = Due.street(0, 4, 0, 4, 0);
        for (int step = 0; step < 500; step++) {
            Due.is("step " + step, x.step(), 0);
        }
        Due.is("500", x.told(0), 500);
    }

    /** No run of 512 calls comes to these; what more calls answer is free, but so alone it can be seen. */
    private static void stepIs9999() {
        Due.words("Promise 11: STATE: .. or STEP is 9999. (STEPS, SAID also beyond 9999, in what is asked)");
        LastAtPump x = Due.street(0, 0, 9, 19, 9);
        Due.evening(x, "cost 0");
        for (int step = 0; step < 9999; step++) {
            x.set(0, 1, 9);
            Due.is("step " + step, x.step(), 1);
        }
        Due.all("9999", new long[] {x.told(0), x.of(0, 4)}, 9999, 9999);
        Due.is("no more", x.step(), STATE);
        Due.all("9999 still", new long[] {x.told(0), x.of(0, 3), x.of(0, 4)}, 9999, 8, 9999);
        Due.all("asked", new long[] {x.on(8, 20), x.on(9, 2), x.ends()}, 10007, 0, 9);
        Due.is("a game", x.game(0, 0), 1);
        x.set(0, 1, 0);
        Due.is("goes", x.gone(2), 0);
        x.book(0, 9999);
        Due.is("the book", x.looked(), -5);
    }
}
