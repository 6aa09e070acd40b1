/** The paragraph "Answers": what is answered NONE, BAD, STATE, FULL (or a host's refusal) changes nothing, what is asked
 *  changes nothing; and of several it is the first that a call's words name. */
public final class EdgeRefusedTest {
    private static final int NONE = LastAtPump.NONE, BAD = LastAtPump.BAD, STATE = LastAtPump.STATE,
            FULL = LastAtPump.FULL;
    private static final int NOTHING = -11, CAST = -12, PLACE = -13, SIZE = -14;
    private static final long NO = LastAtPump.NO;

    private static final Twins ROOM = new Twins("room", EdgeRefusedTest::room);
    private static final Twins CROWD = new Twins("crowd", EdgeRefusedTest::crowd);
    private static final Twins ENDED = new Twins("at the end", EdgeRefusedTest::ended);
    private static final Twins NOBODY = new Twins("nobody", LastAtPump::new);

    public static void main(String[] args) {
        twinsSeeChanges();
        people();
        bucket();
        texts();
        full();
        seen();
        games();
        books();
        steps();
        acts();
        faults();
        tapes();
        shifts();
        askedOfPeople();
        askedOfSteps();
        askedOfWhatIsBest();
        askedOfSeen();
        askedOfTheRest();
        askedWrong();
        order();
        Due.end();
    }

    /** Four people, room for more of all; two have told, an image of it is other than it is. */
    private static LastAtPump room() {
        LastAtPump x = new LastAtPump();
        x.person(6, 3, 2, 4);
        x.person(2, 1, 19, 2);
        x.person(0, 0, 9, 0);
        x.person(5, 2, 11, 9);
        Due.feed(x, "far 11;cost 3;rain 7 s<5");
        x.evening();
        x.row(0, 1, 4);
        x.row(0, 2, 9);
        x.see(3, 1);
        x.see(0, 0);
        x.game(1, 0);
        x.game(2, 1);
        x.book(1, 1);
        x.book(0, 0);
        x.tape(0, 0, 3);
        x.tape(1, 1, 3);
        x.tape(2, 2, 3);
        x.tape(3, 3, 3);
        x.tape(4, 4, 3);
        for (int tape = 0; tape <= 4; tape++) {
            x.item(tape, 1, 1);
            x.item(tape, 2, 2);
        }
        x.with(1);
        x.step();
        x.image();
        x.set(1, 0, 18);
        x.set(3, 1, 7);
        x.row(0, 2, 5);
        x.see(2, 7);
        x.game(0, 0);
        x.book(3, 0);
        x.with(3);
        x.weight(21);
        x.step();
        Due.feed(x, "far 8;cost 9;dry 4 p=1");
        x.act(0, 2, 11);
        return x;
    }

    /** Six people, six EVENINGS, a hundred bytes, all that is told by hand full. */
    private static LastAtPump crowd() {
        LastAtPump x = new LastAtPump();
        for (int p = 0; p <= 5; p++) {
            x.person((p + 6) % 7, p, 3 * p, p);
        }
        for (int n = 1; n <= 6; n++) {
            Due.feed(x, "far " + n);
            x.evening();
        }
        for (int k = 0; k < 6; k++) {
            x.see(k, k);
        }
        for (int k = 0; k < 10; k++) {
            x.game(1, 0);
        }
        for (int k = 0; k < 8; k++) {
            x.book(k % 6, 0);
        }
        x.image();
        x.tape(0, 0, 3);
        for (int n = 0; n < 100; n++) {
            x.feed('f');
        }
        return x;
    }

    private static LastAtPump ended() {
        LastAtPump x = Due.street(0, 0, 1, 19, 9);
        x.step();
        x.step();
        return x;
    }

    private static void twinsSeeChanges() {
        Due.words("(what goes does change something)");
        ROOM.changes("person", x -> x.person(0, 0, 0, 0));
        ROOM.changes("set door", x -> x.set(0, 0, 3));
        ROOM.changes("set hopes", x -> x.set(3, 1, 1));
        for (int part = 0; part <= 3; part++) {
            int its = part;
            ROOM.changes("row", x -> x.row(0, its, 8));
        }
        ROOM.changes("with", x -> x.with(2));
        ROOM.changes("weight", x -> x.weight(22));
        ROOM.changes("feed", x -> x.feed('1'));
        ROOM.changes("evening", x -> x.evening());
        ROOM.changes("step", x -> x.step());
        ROOM.changes("see", x -> x.see(0, 1));
        ROOM.changes("see none", x -> x.see(-1, 0));
        ROOM.changes("game", x -> x.game(0, 0));
        ROOM.changes("game none", x -> x.game(-1, 0));
        ROOM.changes("book", x -> x.book(0, 0));
        ROOM.changes("book none", x -> x.book(-1, 0));
        ROOM.changes("image", x -> x.image());
        ROOM.changes("undo", x -> x.undo());
        ROOM.changes("act", x -> x.act(0, 0, 0));
        ROOM.changes("tape", x -> x.tape(0, 0, 2));
        ROOM.changes("tape of another sort", x -> x.tape(5, 1, 0));
        ROOM.changes("item", x -> x.item(0, 0, 9));
        ROOM.changes("shift", x -> x.shift(0, 1, 0, 0, 1));
        ENDED.changes("with", x -> x.with(0));
    }

    private static void people() {
        Due.words("NONE (-1) no such number; BAD (-2) a number is not as told .. changes nothing (people)");
        for (int n : Due.outside(0, 6)) {
            ROOM.refuses("person of kind " + n, x -> x.person(n, 0, 0, 0), NONE);
            NOBODY.refuses("person of kind " + n, x -> x.person(n, 0, 0, 0), NONE);
        }
        for (int n : Due.outside(0, 9)) {
            ROOM.refuses("person of v " + n, x -> x.person(0, n, 0, 0), BAD);
            ROOM.refuses("person of hopes " + n, x -> x.person(0, 0, 0, n), BAD);
            ROOM.refuses("set of hopes " + n, x -> x.set(0, 1, n), BAD);
            ROOM.refuses("row of n " + n, x -> x.row(0, 0, n), BAD);
            NOBODY.refuses("person of v " + n, x -> x.person(0, n, 0, 0), BAD);
        }
        for (int n : Due.outside(0, 19)) {
            ROOM.refuses("person at door " + n, x -> x.person(0, 0, n, 0), BAD);
            ROOM.refuses("set of door " + n, x -> x.set(1, 0, n), BAD);
        }
        for (int n : Due.outside(0, 3)) {
            ROOM.refuses("set of person " + n, x -> x.set(n, 0, 1), NONE);
            ROOM.refuses("row of person " + n, x -> x.row(n, 0, 1), NONE);
            ROOM.refuses("row of part " + n, x -> x.row(0, n, 1), NONE);
        }
        for (int n : Due.outside(0, 1)) {
            ROOM.refuses("set of what " + n, x -> x.set(0, n, 1), NONE);
        }
        for (int p = 1; p <= 3; p++) {
            int other = p;
            ROOM.refuses("row of another kind", x -> x.row(other, 1, 9), STATE);
        }
        NOBODY.refuses("set", x -> x.set(0, 0, 1), NONE);
        NOBODY.refuses("row", x -> x.row(0, 0, 1), NONE);
    }

    private static void bucket() {
        Due.words("NONE (-1) no such number; BAD (-2) a number is not as told .. changes nothing (the bucket)");
        for (int n : Due.outside(0, 3)) {
            ROOM.refuses("with " + n, x -> x.with(n), NONE);
        }
        ENDED.refuses("with 2", x -> x.with(2), NONE);
        NOBODY.refuses("with", x -> x.with(0), NONE);
        for (int n : Due.outside(0, 999)) {
            ROOM.refuses("weight " + n, x -> x.weight(n), BAD);
            NOBODY.refuses("weight " + n, x -> x.weight(n), BAD);
        }
    }

    private static void texts() {
        Due.words("BAD (-2) a number is not as told .. changes nothing (the text)");
        for (int n : Due.outside(0, 127)) {
            ROOM.refuses("feed " + n, x -> x.feed(n), BAD);
            CROWD.refuses("feed " + n, x -> x.feed(n), BAD);
            NOBODY.refuses("feed " + n, x -> x.feed(n), BAD);
        }
    }

    private static void full() {
        Due.words("FULL (-4) .. changes nothing");
        for (int kind = 0; kind <= 6; kind++) {
            int its = kind;
            CROWD.refuses("person of kind " + kind, x -> x.person(its, 1, 1, 1), FULL);
        }
        CROWD.refuses("feed", x -> x.feed('1'), FULL);
        CROWD.refuses("evening", x -> x.evening(), FULL);
        for (int p = 0; p <= 5; p++) {
            int its = p;
            CROWD.refuses("see", x -> x.see(its, 3), FULL);
            CROWD.refuses("book", x -> x.book(its, 3), FULL);
            CROWD.refuses("game", x -> x.game(2, its), FULL);
        }
        CROWD.refuses("game, a step", x -> x.game(0, 0), FULL);
        CROWD.refuses("game, 10 more", x -> x.game(1, 0), FULL);
    }

    private static void seen() {
        Due.words("NONE (-1), BAD (-2) .. changes nothing (see)");
        for (int p : new int[] {-2, 4, 5, 6, Integer.MIN_VALUE, Integer.MAX_VALUE}) {
            ROOM.refuses("see person " + p, x -> x.see(p, 1), NONE);
        }
        NOBODY.refuses("see", x -> x.see(0, 1), NONE);
        for (int n : Due.outside(0, 60)) {
            ROOM.refuses("see n " + n, x -> x.see(1, n), BAD);
            CROWD.refuses("see n " + n, x -> x.see(1, n), BAD);
        }
    }

    private static void games() {
        Due.words("NONE (-1) .. changes nothing (game)");
        for (int what : new int[] {-2, 3, Integer.MIN_VALUE, Integer.MAX_VALUE}) {
            ROOM.refuses("game of what " + what, x -> x.game(what, 0), NONE);
            CROWD.refuses("game of what " + what, x -> x.game(what, 0), NONE);
        }
        for (int p : Due.outside(0, 3)) {
            ROOM.refuses("game 2 of person " + p, x -> x.game(2, p), NONE);
        }
        NOBODY.refuses("game 2", x -> x.game(2, 0), NONE);
    }

    private static void books() {
        Due.words("NONE (-1), BAD (-2) .. changes nothing (book)");
        for (int p : new int[] {-2, 4, 5, 6, Integer.MIN_VALUE, Integer.MAX_VALUE}) {
            ROOM.refuses("book of person " + p, x -> x.book(p, 1), NONE);
        }
        NOBODY.refuses("book", x -> x.book(0, 1), NONE);
        for (int n : Due.outside(0, 9999)) {
            ROOM.refuses("book of said " + n, x -> x.book(1, n), BAD);
            CROWD.refuses("book of said " + n, x -> x.book(1, n), BAD);
        }
    }

    private static void steps() {
        Due.words("STATE (-3) as told .. changes nothing");
        ENDED.refuses("step", x -> x.step(), STATE);
        NOBODY.refuses("step", x -> x.step(), STATE);
        new Twins("alone", () -> Due.street(0, 3, 3)).refuses("step", x -> x.step(), STATE);
        ENDED.refuses("undo", x -> x.undo(), STATE);
        NOBODY.refuses("undo", x -> x.undo(), STATE);
    }

    private static void acts() {
        Due.words("Promise 32: 0, and no TRACE then: no such PERSON, act. (nothing else changes)");
        for (int n : Due.outside(0, 3)) {
            NOBODY.refuses("act of person " + n, x -> x.act(n, 0, 1), 0);
            ENDED.refuses("act of person " + n, x -> x.act(n, 0, 1), 0);
            ROOM.alike("act of person " + n, x -> x.act(n, 0, 1), x -> x.act(0, 3, 1));
        }
        for (int n : Due.outside(0, 2)) {
            ENDED.refuses("act " + n, x -> x.act(0, n, 1), 0);
            ROOM.alike("act " + n, x -> x.act(0, n, 1), x -> x.act(4, 0, 1));
        }
        for (int act = 0; act <= 2; act++) {
            int its = act;
            ROOM.alike("an act is none of the rest", x -> actThenNone(x, its), x -> x.act(4, 0, 1));
        }
    }

    private static int actThenNone(LastAtPump x, int act) {
        x.act(1, act, 1);
        return x.act(4, 0, 1);
    }

    private static void faults() {
        Due.words("Promise 9: -10 less the FAULT (the one that held holds; nothing else changes)");
        for (Twins twins : new Twins[] {ENDED, NOBODY}) {
            twins.refuses("no text", x -> x.evening(), -10);
            twins.refuses("a text that is none", x -> evening(x, "x"), -10);
            twins.refuses("a text that ends too early", x -> evening(x, "far 3;cost 9;far "), -27);
        }
    }

    private static int evening(LastAtPump x, String text) {
        for (char sign : text.toCharArray()) {
            x.feed(sign);
        }
        return x.evening();
    }

    private static void tapes() {
        Due.words("NONE, BAD, NOTHING (-11), PLACE (-13), SIZE (-14) .. changes nothing (tapes)");
        for (int n : Due.outside(0, 5)) {
            ROOM.refuses("tape " + n, x -> x.tape(n, 0, 1), NONE);
            ROOM.refuses("tape " + n + " nothing", x -> x.tape(n, -1, 1), NONE);
            ROOM.refuses("item of tape " + n, x -> x.item(n, 0, 9), NONE);
        }
        for (int tape = 0; tape <= 5; tape++) {
            int its = tape;
            for (int sort : new int[] {-2, 5}) {
                ROOM.refuses("tape of sort " + sort, x -> x.tape(its, sort, 1), BAD);
            }
            ROOM.refuses("tape of 61", x -> x.tape(its, 0, 61), BAD);
            ROOM.refuses("tape of max", x -> x.tape(its, 4, Integer.MAX_VALUE), BAD);
            ROOM.refuses("tape of -1", x -> x.tape(its, 0, -1), SIZE);
            ROOM.refuses("tape of min", x -> x.tape(its, 4, Integer.MIN_VALUE), SIZE);
            for (int i : Due.outside(0, 2)) {
                ROOM.refuses("item " + i, x -> x.item(its, i, 9), tape == 5 ? NOTHING : PLACE);
            }
        }
    }

    private static void shifts() {
        Due.words("NONE, NOTHING (-11), CAST (-12), PLACE (-13) .. changes nothing (shift)");
        for (int n : Due.outside(0, 5)) {
            ROOM.refuses("shift from " + n, x -> x.shift(n, 0, 0, 0, 1), NONE);
            ROOM.refuses("shift to " + n, x -> x.shift(0, 0, n, 0, 1), NONE);
        }
        for (int tape = 0; tape <= 4; tape++) {
            int its = tape;
            ROOM.refuses("shift from nothing", x -> x.shift(5, 0, its, 0, 1), NOTHING);
            ROOM.refuses("shift to nothing", x -> x.shift(its, 0, 5, 0, 1), NOTHING);
            ROOM.refuses("shift of unlike sorts", x -> x.shift(its, 1, (its + 1) % 5, 0, 1), CAST);
            ROOM.refuses("shift beyond its end", x -> x.shift(its, 1, its, 0, 3), PLACE);
            ROOM.refuses("shift beyond the other's end", x -> x.shift(its, 0, its, 1, 3), PLACE);
            for (int below : new int[] {-1, Integer.MIN_VALUE}) {
                ROOM.refuses("shift, n below 0", x -> x.shift(its, 1, its, 0, below), PLACE);
                ROOM.refuses("shift, i below 0", x -> x.shift(its, below, its, 0, 1), PLACE);
                ROOM.refuses("shift, j below 0", x -> x.shift(its, 1, its, below, 1), PLACE);
            }
        }
    }

    private static void askedOfPeople() {
        Due.words("what is asked changes nothing (of, told)");
        for (Twins twins : new Twins[] {ROOM, CROWD, ENDED, NOBODY}) {
            for (int what = 0; what <= 7; what++) {
                int its = what;
                twins.asks("of 0, " + what, x -> x.of(0, its));
                twins.asks("of 1, " + what, x -> x.of(1, its));
                twins.asks("of 3, " + what, x -> x.of(3, its));
                twins.asks("told " + what, x -> x.told(its));
            }
        }
    }

    private static void askedOfSteps() {
        Due.words("what is asked .. goes on from how all is .., and changes nothing (on, ends, longest)");
        for (Twins twins : new Twins[] {ROOM, CROWD, ENDED, NOBODY}) {
            for (int what : new int[] {0, 1, 2, 10, 11, 20, 21}) {
                twins.asks("on 0, " + what, x -> x.on(0, what));
                twins.asks("on 1, " + what, x -> x.on(1, what));
                twins.asks("on 99, " + what, x -> x.on(99, what));
            }
            twins.asks("ends", x -> x.ends());
            twins.asks("longest", x -> x.longest());
        }
    }

    private static void askedOfWhatIsBest() {
        Due.words("what is asked .. changes nothing (stand, needs, heavy, change, mute)");
        for (Twins twins : new Twins[] {ROOM, CROWD, ENDED, NOBODY}) {
            for (int p = 0; p <= 5; p++) {
                int its = p;
                twins.asks("stand of " + p, x -> x.stand(its, 60, 0));
                twins.asks("stand of " + p + ", how much", x -> x.stand(its, 9, 1));
                twins.asks("needs of " + p, x -> x.needs(its, 60));
                twins.asks("heavy of " + p, x -> x.heavy(its));
            }
            twins.asks("change", x -> x.change());
            twins.asks("mute 1", x -> x.mute(1));
            twins.asks("mute 60", x -> x.mute(60));
        }
    }

    private static void askedOfSeen() {
        Due.words("what is asked .. changes nothing (from, had, odds, mean)");
        for (Twins twins : new Twins[] {ROOM, CROWD, ENDED, NOBODY}) {
            twins.asks("from", x -> x.from());
            for (int p = 0; p <= 5; p++) {
                int its = p;
                twins.asks("had of " + p, x -> x.had(its, 0));
                twins.asks("had of " + p + ", least", x -> x.had(its, 1));
            }
            for (int part = 0; part <= 1; part++) {
                int its = part;
                twins.asks("odds", x -> x.odds(99, its));
                twins.asks("mean", x -> x.mean(60, its));
            }
        }
    }

    private static void askedOfTheRest() {
        Due.words("what is asked .. changes nothing (gone, looked, judge, trace, taken, count, read)");
        for (Twins twins : new Twins[] {ROOM, CROWD, ENDED, NOBODY}) {
            for (int what = 0; what <= 6; what++) {
                int its = what;
                twins.asks("gone", x -> x.gone(its));
                twins.asks("trace", x -> x.trace(its));
                twins.asks("taken", x -> x.taken(0, its));
                twins.asks("count", x -> x.count(its));
                twins.asks("read", x -> x.read(its, 1));
                twins.asks("judge", x -> x.judge(its, 0));
                twins.asks("judge from 1 on", x -> x.judge(its, 1));
            }
            twins.asks("looked", x -> x.looked());
        }
    }

    private static void askedWrong() {
        Due.words("what is asked changes nothing (wrongly asked)");
        for (int n : new int[] {-9, 100, Integer.MIN_VALUE, Integer.MAX_VALUE}) {
            ROOM.refuses("of person", x -> x.of(n, 0), -1001);
            ROOM.refuses("of what", x -> x.of(0, n), -1001);
            ROOM.refuses("told", x -> x.told(n), NONE);
            ROOM.refuses("on what", x -> x.on(1, n), NONE);
            ROOM.refuses("on n", x -> x.on(n, 0), BAD);
            ROOM.refuses("stand of person", x -> x.stand(n, 1, 0), NONE);
            ROOM.refuses("stand of n", x -> x.stand(0, n, 0), BAD);
            ROOM.refuses("stand of what", x -> x.stand(0, 1, n), NONE);
            ROOM.refuses("needs of person", x -> x.needs(n, 1), NONE);
            ROOM.refuses("needs of n", x -> x.needs(0, n), BAD);
            ROOM.refuses("heavy", x -> x.heavy(n), NONE);
            ROOM.refuses("mute", x -> x.mute(n), BAD);
            ROOM.refuses("had of person", x -> x.had(n, 0), NONE);
            ROOM.refuses("had of what", x -> x.had(0, n), NONE);
            ROOM.refuses("odds of n", x -> x.odds(n, 0), NO);
            ROOM.refuses("odds of part", x -> x.odds(1, n), NO);
            ROOM.refuses("mean of n", x -> x.mean(n, 0), NO);
            ROOM.refuses("mean of part", x -> x.mean(1, n), NO);
            ROOM.refuses("gone", x -> x.gone(n), NONE);
            ROOM.refuses("judge of tape", x -> x.judge(n, 0), NONE);
            ROOM.refuses("judge of place", x -> x.judge(0, n), 100);
            ROOM.refuses("judge of another sort", x -> x.judge(1, n), CAST);
            ROOM.refuses("trace", x -> x.trace(n), NONE);
            ROOM.refuses("taken of k", x -> x.taken(0, n), BAD);
            ROOM.refuses("taken of person", x -> x.taken(n, 0), NOTHING);
            ROOM.refuses("taken for another", x -> x.taken(0, 1), CAST);
            ROOM.refuses("count", x -> x.count(n), BAD);
            ROOM.refuses("read of tape", x -> x.read(n, 0), NO);
            ROOM.refuses("read of place", x -> x.read(0, n), NO);
        }
    }

    private static void order() {
        Due.words("Answers: .. the first that a call's words name.");
        LastAtPump x = crowd();
        Due.is("person: NONE, BAD, FULL", x.person(7, 10, 20, 10), NONE);
        Due.is("person: NONE, FULL", x.person(-1, 0, 0, 0), NONE);
        Due.is("person: BAD, FULL", x.person(0, 10, 0, 0), BAD);
        Due.is("set: NONE (person), BAD", x.set(6, 0, 20), NONE);
        Due.is("set: NONE (what), BAD", x.set(0, 2, 20), NONE);
        Due.is("row: NONE (person), BAD, STATE", x.row(6, 0, 10), NONE);
        Due.is("row: NONE (part), BAD, STATE", x.row(1, 4, 10), NONE);
        Due.is("row: NONE (part), STATE", x.row(1, 4, 1), NONE);
        Due.is("row: BAD, STATE", x.row(1, 0, 10), BAD);
        Due.is("feed: BAD, FULL", x.feed(128), BAD);
        Due.is("evening: FULL, FAULT", x.evening(), FULL);
        Due.is("on: NONE, BAD", x.on(100, 3), NONE);
        Due.is("on: NONE (no such one), BAD", x.on(-1, 16), NONE);
        Due.is("stand: NONE (person), BAD", x.stand(6, 0, 0), NONE);
        Due.is("stand: NONE (what), BAD", x.stand(0, 61, 2), NONE);
        Due.is("needs: NONE, BAD", x.needs(6, 0), NONE);
        Due.is("see: NONE, BAD, FULL", x.see(6, 61), NONE);
        Due.is("see: NONE, FULL", x.see(6, 1), NONE);
        Due.is("see: BAD, FULL", x.see(0, 61), BAD);
        Due.is("game: NONE (what), FULL", x.game(3, 0), NONE);
        Due.is("game: NONE (person), FULL", x.game(2, 6), NONE);
        Due.is("book: NONE, BAD, FULL", x.book(6, -1), NONE);
        Due.is("book: NONE, FULL", x.book(6, 1), NONE);
        Due.is("book: BAD, FULL", x.book(0, -1), BAD);
        x.tape(1, 1, 3);
        Due.is("judge: NONE ahead of all", x.judge(6, -1), NONE);
        Due.is("judge: CAST ahead of 100", x.judge(1, -1), CAST);
        Due.is("taken: BAD, NOTHING", x.taken(6, 7), BAD);
        Due.is("taken: NOTHING, CAST", x.taken(6, 4), NOTHING);
        Due.is("tape: NONE, BAD (sort), SIZE", x.tape(6, 5, -1), NONE);
        Due.is("tape: NONE, BAD (n)", x.tape(6, 0, 61), NONE);
        Due.is("tape: NONE, SIZE", x.tape(6, 0, -1), NONE);
        Due.is("tape: BAD (sort), SIZE", x.tape(0, 5, -1), BAD);
        Due.is("item: NONE, PLACE", x.item(6, -1, 0), NONE);
        Due.is("item: NOTHING, PLACE", x.item(5, -1, 0), NOTHING);
        Due.is("shift: NONE, NOTHING, PLACE", x.shift(5, -1, 6, -1, -1), NONE);
        Due.is("shift: NONE, CAST", x.shift(6, -1, 0, 0, 0), NONE);
        Due.is("shift: NOTHING, PLACE", x.shift(5, -1, 0, -1, -1), NOTHING);
        Due.is("shift: CAST, PLACE", x.shift(0, -1, 1, -1, -1), CAST);
    }
}
