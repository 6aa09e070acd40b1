/** The edges that the document names of what is asked of STEPS and what is best (terms 2; promises 12 to 19). */
public final class EdgeAskedTest {
    private static final int NONE = LastAtPump.NONE, BAD = LastAtPump.BAD;

    public static void main(String[] args) {
        onSteps();
        onFewerSteps();
        onAsItGoes();
        onWhat();
        onOne();
        onNobody();
        endsBehind();
        endsNotByThen();
        endsNow();
        longestOfNobody();
        longestOfSeveral();
        longestLaterThanAny();
        standSteps();
        standDoors();
        standOfSeveral();
        standHowMuch();
        standNone();
        needsSteps();
        needsNumbers();
        needsIfLast();
        needsNone();
        heavyMost();
        heavyLeast();
        heavyOfKinds();
        heavyWithThatOne();
        heavyNobodyElse();
        heavyNone();
        changeNone();
        changeOnlyIfLater();
        changeNumbers();
        changeOfSeveral();
        muteSteps();
        muteBits();
        muteWhoever();
        Due.end();
    }

    /** Two, 1 door apart; by rain it is 1 heavier a STEP, so that at STEP 96 who began with it can't carry it any more
     *  and tells what it hopes: 0 has it at STEP 96 if it began, else 1. Who hopes n is LAST behind 97 + n STEPS. */
    private static LastAtPump slow(int hopes, int others) {
        LastAtPump x = Due.street(0, 3, hopes, 4, others);
        Due.evening(x, "rain 1 s<10");
        return x;
    }

    private static void onSteps() {
        Due.words("ON n STEPS (0 .. 99); Promise 12: BAD: n.");
        LastAtPump x = Due.street(0, 3, 0, 4, 0);
        Due.evening(x, "rain 1 s<10;far 99");
        Due.all("0", new long[] {x.on(0, 0), x.on(0, 1), x.on(0, 2), x.on(0, 10), x.on(0, 20)}, 0, 0, -5, 0, 0);
        Due.all("1", new long[] {x.on(1, 0), x.on(1, 1)}, 1, 1);
        Due.all("98", new long[] {x.on(98, 0), x.on(98, 1)}, 0, 98);
        Due.all("99", new long[] {x.on(99, 0), x.on(99, 1)}, 1, 99);
        for (int n : Due.outside(0, 99)) {
            for (int what : new int[] {0, 1, 2, 10, 11, 20, 21}) {
                Due.is("n " + n + ", what " + what, x.on(n, what), BAD);
            }
        }
        Due.is("nothing changes", x.told(0), 0);
    }

    private static void onFewerSteps() {
        Due.words("N STEPS are so many, or fewer, if none goes any more.");
        LastAtPump x = Due.street(0, 0, 1, 19, 1);
        Due.all("1", new long[] {x.on(1, 1), x.on(1, 2), x.on(1, 10), x.on(1, 20)}, 5, -5, 0, 1);
        Due.all("2", new long[] {x.on(2, 1), x.on(2, 2), x.on(2, 10), x.on(2, 20)}, 5, 0, 0, 1);
        Due.all("99", new long[] {x.on(99, 1), x.on(99, 2), x.on(99, 10), x.on(99, 20)}, 5, 0, 0, 1);
        LastAtPump alone = Due.street(0, 0, 1);
        alone.weight(7);
        Due.all("alone", new long[] {alone.on(99, 0), alone.on(99, 1), alone.on(99, 2), alone.on(99, 10)}, 0, 7, -5, 1);
    }

    private static void onAsItGoes() {
        Due.words("All that follows is asked, goes on from how all is");
        int[][] doors = {{0, 5, 9, 14, 19, 11}, {3, 3, 4, 12, 0, 8}, {19, 1, 18, 2, 17, 3}};
        for (int street = 0; street < 3; street++) {
            for (int turn = 0; turn <= 6; turn++) {
                LastAtPump x = new LastAtPump();
                for (int p = 0; p <= 5; p++) {
                    int kind = (p + turn) % 7;
                    x.person(kind, 9 - p, doors[street][p], (p * 5 + turn) % 4);
                    x.row(p, p % 4, 9);
                    x.row(p, 1, p);
                }
                Due.evening(x, "rain 9 k<3&s>4|p=1;dry 7 !h=0&w>1;far 11;cost 3");
                int n = 9 + turn;
                long[] asked = {x.on(n, 0), x.on(n, 1), x.on(n, 2), x.on(n, 10), x.on(n, 13), x.on(n, 15), x.on(n, 20),
                    x.on(n, 23), x.on(n, 25)};
                Due.steps(x, n);
                Due.all("street " + street + ", turn " + turn, new long[] {x.told(1), x.told(2), x.told(3), x.of(0, 3),
                        x.of(3, 3), x.of(5, 3), x.of(0, 4), x.of(3, 4), x.of(5, 4)}, asked);
            }
        }
    }

    private static void onWhat() {
        Due.words("Promise 12: what 0 WITH whom (-5), 1 WEIGHT, 2 LAST (-5) .. NONE");
        LastAtPump x = Due.street(0, 0, 1, 19, 1);
        for (int what : new int[] {-1, 3, 4, 9, 30, 100, Integer.MIN_VALUE, Integer.MAX_VALUE}) {
            Due.is("what " + what, x.on(0, what), NONE);
            Due.is("what " + what + " by a wrong n", x.on(100, what), NONE);
        }
    }

    private static void onOne() {
        Due.words("Promise 12: 10 and p HOPES, 20 and p SAID. NONE");
        LastAtPump x = Due.street(0, 0, 1, 19, 2, 19, 3, 19, 4, 19, 5, 19, 6);
        for (int p = 0; p <= 5; p++) {
            Due.is("hopes of " + p, x.on(0, 10 + p), p + 1);
            Due.is("said of " + p, x.on(1, 20 + p), p == 0 ? 1 : 0);
        }
        for (int what : new int[] {9, 16, 17, 18, 19, 26, 27, 28, 29}) {
            Due.is("what " + what, x.on(0, what), NONE);
        }
        LastAtPump two = Due.street(0, 0, 1, 19, 2);
        Due.all("two people", new long[] {two.on(0, 11), two.on(0, 12), two.on(0, 21), two.on(0, 22)}, 2, NONE, 0, NONE);
    }

    private static void onNobody() {
        Due.words("Promise 12: WITH whom (-5)");
        LastAtPump x = new LastAtPump();
        Due.all("nobody", new long[] {x.on(0, 0), x.on(99, 0), x.on(0, 1), x.on(0, 2), x.on(0, 10), x.on(0, 20)},
                -5, -5, 0, -5, NONE, NONE);
        x.weight(999);
        Due.is("weight", x.on(99, 1), 999);
    }

    private static void endsBehind() {
        Due.words("ENDS: behind how many STEPS (0 .. 99) it is at the END");
        Due.is("97", slow(0, 9).ends(), 97);
        Due.is("98", slow(1, 9).ends(), 98);
        Due.is("99", slow(2, 9).ends(), 99);
        Due.is("1", Due.street(0, 0, 0, 19, 0).ends(), 1);
        LastAtPump x = slow(3, 9);
        x.step();
        Due.is("99 from then", x.ends(), 99);
    }

    private static void endsNotByThen() {
        Due.words("ENDS: .. (-5: not by then)");
        Due.is("100", slow(3, 9).ends(), -5);
        Due.is("101", slow(4, 9).ends(), -5);
        Due.is("never", Due.street(0, 4, 0, 4, 0).ends(), -5);
        Due.is("alone", Due.street(0, 4, 0).ends(), -5);
        Due.is("nobody", new LastAtPump().ends(), -5);
    }

    private static void endsNow() {
        Due.words("ENDS: behind .. (0 ..)");
        LastAtPump x = Due.street(0, 0, 0, 19, 0);
        x.step();
        Due.is("at the end", x.ends(), 0);
        x.with(0);
        Due.is("no more", x.ends(), 1);
    }

    private static void longestOfNobody() {
        Due.words("LONGEST: .. -5: nobody is there");
        Due.is("nobody", new LastAtPump().longest(), -5);
        Due.is("alone", Due.street(0, 4, 0).longest(), 0);
        LastAtPump x = new LastAtPump();
        x.image();
        x.person(0, 0, 0, 0);
        x.undo();
        Due.is("nobody any more", x.longest(), -5);
    }

    private static void longestOfSeveral() {
        Due.words("LONGEST: .. of several the first");
        Due.is("all at once", Due.street(0, 0, 0, 19, 0).longest(), 0);
        Due.is("2 and 2", Due.street(0, 0, 2, 19, 2).longest(), 0);
        Due.is("1 and 2", Due.street(0, 0, 1, 19, 2).longest(), 1);
        Due.is("99 and 99", slow(2, 2).longest(), 0);
        Due.is("98 and 99", slow(1, 2).longest(), 1);
        Due.is("neither by 99, 100 and 106", slow(3, 9).longest(), 0);
        Due.is("all never", Due.street(0, 4, 0, 4, 0, 4, 0).longest(), 0);
        LastAtPump x = Due.street(0, 0, 2, 19, 2);
        x.with(1);
        Due.is("whoever has it now", x.longest(), 0);
    }

    private static void longestLaterThanAny() {
        Due.words("LONGEST: .. (not by 99: later than any)");
        Due.is("99, 100", slow(2, 3).longest(), 1);
        Due.is("100, 99", slow(3, 2).longest(), 0);
        Due.is("99, 106", slow(2, 9).longest(), 1);
        // 5 is at the END at once, the others never.
        Due.is("the first that never ends", Due.street(3, 0, 9, 19, 8, 9, 0, 8, 0).longest(), 2);
    }

    private static void standSteps() {
        Due.words("STAND of one and n STEPS (1 .. 60); Promise 15: BAD: n.");
        LastAtPump x = Due.street(0, 0, 2, 19, 1);
        Due.is("1", x.stand(0, 1, 0), 7);
        Due.is("60", x.stand(0, 60, 0), 7);
        for (int n : Due.outside(1, 60)) {
            Due.is("n " + n, x.stand(0, n, 0), BAD);
            Due.is("n " + n + ", how much", x.stand(1, n, 1), BAD);
        }
        // TOLD ones, by their rows: 0 tells in the fifth and in the sixth STEP, if it stands at 1.
        LastAtPump y = new LastAtPump();
        y.person(3, 0, 19, 5);
        y.person(6, 0, 5, 6);
        y.person(6, 0, 14, 6);
        y.row(1, 2, 6);
        y.row(2, 3, 9);
        Due.evening(y, "far 4;cost 0");
        Due.all("4, 5, 6", new long[] {y.stand(0, 4, 1), y.stand(0, 5, 1), y.stand(0, 6, 1)}, 0, 1, 2);
    }

    private static void standDoors() {
        Due.words("STAND: the DOOR by which, were that its DOOR now, it tells least (0 .. 19)");
        for (int door = 0; door <= 19; door++) {
            LastAtPump x = Due.street(0, 9, 9, door, 9);
            Due.evening(x, "far 0;cost 0");
            Due.is("where the other one is", x.stand(0, 1, 0), door);
            Due.is("it tells nothing there", x.stand(0, 1, 1), 0);
            Due.is("its door stays", x.of(0, 2), 9);
        }
        // There is no door 20, where it would be dry enough: from each of the others 2 tells all that it hopes. (At 19
        // it comes back behind 7 STEPS, too heavy.)
        LastAtPump y = new LastAtPump();
        y.person(6, 0, 19, 9);
        y.person(6, 0, 13, 9);
        y.person(3, 0, 19, 7);
        int[][] rows = {{5, 1, 4, 3}, {1, 3, 9, 9}};
        for (int p = 0; p <= 1; p++) {
            for (int part = 0; part <= 3; part++) {
                y.row(p, part, rows[p][part]);
            }
        }
        Due.evening(y, "far 2;cost 1;dry 99 d>19;rain 12 d<20");
        y.with(2);
        Due.all("no door 20", new long[] {y.stand(2, 15, 0), y.stand(2, 15, 1)}, 0, 7);
    }

    private static void standOfSeveral() {
        Due.words("STAND: .. it tells least in these (of several the least)");
        LastAtPump x = Due.street(0, 19, 9, 12, 9);
        Due.is("0 reaches 12", x.stand(0, 60, 0), 0);
        x.set(1, 0, 13);
        Due.is("1 reaches 13", x.stand(0, 60, 0), 1);
        x.set(0, 1, 0);
        Due.is("none to tell: 0", x.stand(0, 60, 0), 0);
        Due.is("it has it not: 0", x.stand(1, 1, 0), 0);
    }

    private static void standHowMuch() {
        Due.words("STAND: .. how much it tells.");
        LastAtPump x = Due.street(0, 0, 9, 19, 9);
        Due.is("nothing", x.stand(0, 60, 1), 0);
        // 0 SLY gives it to 1, the first who hopes most, if it stands at 1's door; 1 gives it back.
        LastAtPump y = new LastAtPump();
        y.person(3, 0, 9, 3);
        y.person(0, 0, 0, 4);
        y.person(0, 0, 19, 4);
        Due.evening(y, "far 0;cost 0");
        Due.is("at 1's door", y.stand(0, 60, 0), 0);
        Due.is("none", y.stand(0, 60, 1), 0);
        // What it told ahead of now is none of it.
        y.step();
        Due.is("it told", y.of(0, 4), 1);
        Due.is("none still", y.stand(0, 60, 1), 0);
    }

    private static void standNone() {
        Due.words("Promise 15: what 0 the DOOR, 1 how much. NONE");
        LastAtPump x = Due.street(0, 0, 2, 19, 1);
        for (int what : Due.outside(0, 1)) {
            Due.is("what " + what, x.stand(0, 1, what), NONE);
            Due.is("what " + what + ", wrong n", x.stand(0, 0, what), NONE);
        }
        for (int p : Due.outside(0, 1)) {
            Due.is("person " + p, x.stand(p, 1, 0), NONE);
            Due.is("person " + p + ", wrong n", x.stand(p, 61, 1), NONE);
        }
        Due.is("alone", Due.street(0, 5, 5).stand(0, 60, 0), 0);
        Due.is("nobody", new LastAtPump().stand(0, 60, 0), NONE);
    }

    private static void needsSteps() {
        Due.words("NEEDS of one and n STEPS (1 .. 60); Promise 16: BAD: n.");
        LastAtPump x = Due.street(0, 0, 2, 19, 1);
        Due.is("1", x.needs(0, 1), 1);
        Due.is("60", x.needs(0, 60), -5);
        Due.is("60 of who has it not", x.needs(1, 60), 0);
        for (int n : Due.outside(1, 60)) {
            Due.is("n " + n, x.needs(0, n), BAD);
        }
    }

    private static void needsNumbers() {
        Due.words("NEEDS: the least number (0 .. 9) by which, were that its HOPES now, it is not LAST behind them (-5: none");
        LastAtPump x = Due.street(0, 0, 2, 19, 1);
        for (int n = 1; n <= 9; n++) {
            Due.is("of " + n, x.needs(0, n), n);
        }
        Due.is("of 10", x.needs(0, 10), -5);
        Due.is("they stay", x.of(0, 3), 2);
        x.set(0, 0, 19);
        Due.is("0", x.needs(0, 60), 0);
        Due.is("0 of one", x.needs(0, 1), 0);
        // At WEIGHT 38 it is 96 behind 58 STEPS, and 0 has it.
        LastAtPump y = slow(9, 9);
        y.weight(38);
        Due.all("58, 59, 60", new long[] {y.needs(0, 58), y.needs(0, 59), y.needs(0, 60)}, 0, 1, 2);
    }

    private static void needsIfLast() {
        Due.words("NEEDS: .. (-5: none; also if it is LAST already)");
        LastAtPump x = Due.street(0, 0, 0, 19, 0);
        x.step();
        Due.is("last", x.told(3), 0);
        Due.is("it is", x.needs(0, 1), -5);
        Due.is("the other is not", x.needs(1, 1), 0);
        x.set(0, 0, 19);
        x.set(0, 1, 9);
        Due.is("though it could now", x.needs(0, 60), -5);
        x.with(0);
        Due.is("nobody is last any more", x.needs(0, 60), 0);
    }

    private static void needsNone() {
        Due.words("Promise 16: NONE; BAD: n.");
        LastAtPump x = Due.street(0, 0, 2, 19, 1);
        for (int p : Due.outside(0, 1)) {
            Due.is("person " + p, x.needs(p, 1), NONE);
            Due.is("person " + p + ", wrong n", x.needs(p, 61), NONE);
        }
        Due.is("nobody", new LastAtPump().needs(0, 1), NONE);
        Due.is("alone", Due.street(0, 5, 5).needs(0, 60), 0);
    }

    private static void heavyMost() {
        Due.words("HEAVY of one: the greatest WEIGHT (0 .. 999)");
        Due.is("999: at its door", Due.street(0, 9, 0, 9, 0).heavy(0), 999);
        LastAtPump x = Due.street(0, 9, 0, 10, 0);
        Due.evening(x, "far 99");
        Due.is("791: 98 eighths", x.heavy(0), 791);
        Due.is("a child: 2 is within at 999", Due.street(2, 9, 0, 11, 0).heavy(0), 999);
        Due.is("a child: 3 is not", Due.street(2, 9, 0, 12, 0).heavy(0), 95);
    }

    private static void heavyLeast() {
        Due.words("HEAVY: .. no more than its REACH");
        for (int way = 1; way <= 12; way++) {
            Due.is("way " + way, Due.street(0, 0, 0, way, 0).heavy(0), 8 * (12 - way) + 7);
        }
        Due.is("7 is the least that can be", Due.street(0, 0, 0, 12, 0).heavy(0), 7);
    }

    private static void heavyOfKinds() {
        Due.words("HEAVY: the WAY to whom it would carry it TO is no more than its REACH, were it that");
        // DREADFUL at STEP 0: 0.
        Due.is("dreadful, at its door", Due.street(5, 9, 0, 9, 0, 10, 0).heavy(0), 999);
        Due.is("dreadful, not at its door", Due.street(5, 9, 0, 10, 0).heavy(0), -5);
        LastAtPump dreadful = Due.street(5, 9, 0, 9, 0);
        dreadful.step();
        dreadful.set(1, 0, 12);
        Due.is("dreadful at step 1: as a child", dreadful.heavy(0), 95);
        LastAtPump told = Due.street(6, 0, 0, 15, 0);
        Due.is("told one", told.heavy(0), -5);
        told.row(0, 0, 9);
        Due.is("told one by its row: 21", told.heavy(0), 55);
        told.row(0, 0, 3);
        Due.is("told one by its row: 15", told.heavy(0), 7);
        told.row(0, 1, 9);
        Due.is("by that of STEP alone", told.heavy(0), 7);
        told.set(1, 0, 9);
        told.row(0, 0, 9);
        Due.is("9 at 999", told.heavy(0), 999);
        Due.is("sly: to who hopes most", Due.street(3, 0, 0, 0, 0, 5, 1).heavy(0), 63);
    }

    private static void heavyWithThatOne() {
        Due.words("HEAVY: .. and the BUCKET WITH that one, now");
        LastAtPump x = Due.street(0, 0, 0, 5, 0, 13, 0);
        Due.all("whoever has it", new long[] {x.heavy(0), x.heavy(1), x.heavy(2)}, 63, 63, 39);
        x.weight(500);
        Due.all("however heavy it is", new long[] {x.heavy(0), x.heavy(1), x.heavy(2)}, 63, 63, 39);
        Due.is("0 is last", x.step(), 2);
        Due.all("though it is the end", new long[] {x.heavy(0), x.heavy(1), x.heavy(2)}, 63, 63, 39);
        Due.all("nothing changes", new long[] {x.told(1), x.told(2), x.told(3)}, 0, 500, 0);
    }

    private static void heavyNobodyElse() {
        Due.words("HEAVY: .. (-5: none, or there is nobody else)");
        for (int kind = 0; kind <= 6; kind++) {
            Due.is("alone, kind " + kind, Due.street(kind, 9, 9).heavy(0), -5);
        }
        Due.is("none", Due.street(0, 0, 0, 13, 0).heavy(0), -5);
        LastAtPump x = Due.street(1, 0, 0, 0, 0);
        Due.evening(x, "far 0");
        Due.is("0 of 0", x.heavy(0), 999);
        x.set(1, 0, 1);
        Due.is("1 of 0", x.heavy(0), -5);
    }

    private static void heavyNone() {
        Due.words("Promise 17: -5. NONE.");
        LastAtPump x = Due.street(0, 0, 2, 12, 1);
        Due.is("1", x.heavy(1), 7);
        for (int p : Due.outside(0, 1)) {
            Due.is("person " + p, x.heavy(p), NONE);
        }
        Due.is("nobody", new LastAtPump().heavy(0), NONE);
    }

    private static void changeNone() {
        Due.words("CHANGE: .. (-5: none)");
        Due.is("nobody", new LastAtPump().change(), -5);
        Due.is("alone", Due.street(0, 4, 4).change(), -5);
        Due.is("two can't be nearer", Due.street(0, 0, 0, 13, 0).change(), -5);
        LastAtPump x = Due.street(0, 0, 0, 13, 0, 14, 0);
        Due.is("0 is last", x.step(), 2);
        Due.is("at the end none ends later", x.change(), -5);
    }

    private static void changeOnlyIfLater() {
        Due.words("CHANGE: .. so that it ENDS latest, if later than as it is");
        Due.is("not by 99 already", Due.street(0, 4, 0, 4, 0, 9, 0).change(), -5);
        Due.is("as late", Due.street(0, 0, 3, 13, 0).change(), -5);
        Due.is("99 as it is, 99 then", slow(2, 2).change(), -5);
        Due.is("100 as it is", slow(3, 9).change(), -5);
        // 0 and 1 stand 1 apart, 2 with them: not by 99, only if 0 changes with it.
        Due.is("later", Due.street(0, 0, 0, 13, 0, 14, 0).change(), 1);
    }

    /** Six; one, SLY, has it at door 19 and hopes nothing; who hopes most is at door 0, who stands well at door 3, the
     *  others at door 10. By FAR 3 only who has it at door 3 can carry it. */
    private static int changeOf(int has, int standsWell) {
        int hopesMost = 0;
        while (hopesMost == has || hopesMost == standsWell) {
            hopesMost++;
        }
        LastAtPump x = new LastAtPump();
        for (int p = 0; p <= 5; p++) {
            int door = p == has ? 19 : p == hopesMost ? 0 : p == standsWell ? 3 : 10;
            x.person(p == has ? 3 : 0, 0, door, p == hopesMost ? 9 : 0);
        }
        Due.evening(x, "far 3");
        x.with(has);
        Due.is("at the end as it is", x.ends(), 1);
        return x.change();
    }

    private static void changeNumbers() {
        Due.words("CHANGE: .. 10 times the lesser and the greater number");
        for (int lesser = 0; lesser <= 5; lesser++) {
            for (int greater = lesser + 1; greater <= 5; greater++) {
                Due.is("the lesser has it", changeOf(lesser, greater), 10 * lesser + greater);
                Due.is("the greater has it", changeOf(greater, lesser), 10 * lesser + greater);
            }
        }
    }

    private static void changeOfSeveral() {
        Due.words("CHANGE: .. of several the first");
        // 0 SLY gives it to 5, who hopes most, if one of 1, 2, 3, 4 changes with 5, or 0 with any of them.
        LastAtPump x = new LastAtPump();
        x.person(3, 0, 0, 0);
        x.person(0, 0, 12, 0);
        x.person(0, 0, 12, 0);
        x.person(0, 0, 13, 9);
        Due.is("0 with 1", x.change(), 1);
        x.set(1, 0, 0);
        Due.is("0 with 2", x.change(), 2);
        x.set(2, 0, 0);
        Due.is("1 with 3", x.change(), 13);
        x.set(1, 0, 13);
        Due.is("0 with 1 at 3's door", x.change(), 1);
    }

    private static void muteSteps() {
        Due.words("MUTE of n STEPS (1 .. 60); Promise 19: BAD.");
        LastAtPump x = slow(9, 9);
        Due.is("1", x.mute(1), 3);
        Due.is("60", x.mute(60), 3);
        for (int n : Due.outside(1, 60)) {
            Due.is("n " + n, x.mute(n), BAD);
        }
        // At WEIGHT 36 it is 96 behind 60 STEPS: in the 61st who began would tell.
        x.weight(36);
        Due.is("60 ahead of telling", x.mute(60), 3);
        x.weight(37);
        Due.is("the 60th tells", x.mute(60), 0);
        Due.is("the 59th does not", x.mute(59), 3);
    }

    private static void muteBits() {
        Due.words("MUTE: those, as bits, who tell nothing in these");
        Due.is("nobody", new LastAtPump().mute(1), 0);
        Due.is("alone", Due.street(0, 4, 9).mute(60), 1);
        LastAtPump x = Due.street(0, 4, 9, 4, 9, 4, 9, 4, 9, 4, 9, 4, 9);
        Due.is("all six", x.mute(60), 63);
        LastAtPump y = Due.street(3, 0, 1, 19, 0, 0, 0, 19, 0, 0, 0, 0, 9);
        Due.is("all who reach not 5 have none to tell; 5 is too near 0", y.mute(60), 63);
        y.set(1, 1, 1);
        y.set(3, 1, 1);
        Due.is("1 and 3 have", y.mute(1), 63 - 2 - 8);
        y.set(5, 0, 19);
        Due.is("then 0, and 5 by what 0 hopes", y.mute(1), 63 - 1 - 32);
    }

    private static void muteWhoever() {
        Due.words("MUTE: .. whoever it is WITH now");
        LastAtPump x = Due.street(0, 0, 9, 0, 9, 19, 9);
        Due.is("2 tells, if it begins", x.mute(1), 3);
        x.with(1);
        Due.is("whoever has it", x.mute(1), 3);
        // What was told ahead of now counts not.
        x.with(2);
        Due.is("it tells", x.step(), 1);
        x.set(2, 0, 0);
        x.weight(0);
        Due.is("it told, and tells no more", x.mute(60), 7);
    }
}
