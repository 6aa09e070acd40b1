/** The edges that the document names of GAMES, BOOKS, what is JUDGED, THE IMAGE (terms 2, 3; promises 25 to 31). */
public final class EdgeGameTest {
    private static final int NONE = LastAtPump.NONE, BAD = LastAtPump.BAD, STATE = LastAtPump.STATE,
            FULL = LastAtPump.FULL, CAST = -12;

    public static void main(String[] args) {
        gameWhat();
        gamePerson();
        gameEmpty();
        gameFull();
        goneAStep();
        goneWeight();
        goneAtTheEnd();
        goneWhat();
        bookSaid();
        bookPerson();
        bookEmpty();
        bookFull();
        lookedFirst();
        lookedNone();
        judgedFirst();
        judgedNone();
        judgedNobody();
        judgedRowEnds();
        judgedBelowNothing();
        judgedNothingHeld();
        judgedBytes();
        judgedTapes();
        judgedSorts();
        imageHowMany();
        undoWithout();
        undoHowMany();
        undoPeople();
        undoBucket();
        undoHand();
        undoEvening();
        undoAgain();
        undoNotTheRest();
        Due.end();
    }

    private static void gameWhat() {
        Due.words("Promise 25: NONE: what (0 .. 2)");
        LastAtPump x = Due.street(0, 4, 0, 4, 0);
        for (int what = 0; what <= 2; what++) {
            Due.is("what " + what, x.game(what, 0), what + 1);
        }
        for (int what : new int[] {-2, 3, Integer.MIN_VALUE, Integer.MAX_VALUE}) {
            Due.is("what " + what, x.game(what, 0), NONE);
        }
        Due.is("three", x.count(3), 3);
    }

    private static void gamePerson() {
        Due.words("Promise 25: NONE: .. person (by 2)");
        LastAtPump x = Due.street(0, 4, 0, 4, 0);
        Due.is("1", x.game(2, 1), 1);
        for (int p : Due.outside(0, 1)) {
            Due.is("2, person " + p, x.game(2, p), NONE);
        }
        Due.is("one", x.count(3), 1);
        int rows = 1;
        for (int p : Due.outside(0, 1)) {
            rows++;
            Due.is("0, person " + p, x.game(0, p), rows);
            rows++;
            Due.is("1, person " + p, x.game(1, p), rows);
        }
        LastAtPump nobody = new LastAtPump();
        Due.is("nobody, 2", nobody.game(2, 0), NONE);
        Due.is("nobody, 0", nobody.game(0, 0), 1);
        Due.is("nobody, 1", nobody.game(1, 0), 2);
    }

    private static void gameEmpty() {
        Due.words("Promise 25: (what -1: it is empty then, 0, whatever the other is)");
        for (int other : new int[] {0, 5, -1, 99, Integer.MIN_VALUE, Integer.MAX_VALUE}) {
            LastAtPump x = Due.street(0, 4, 0, 4, 0);
            Due.is("of none", x.game(-1, other), 0);
            for (int k = 1; k <= 10; k++) {
                Due.is("row", x.game(1, 0), k);
            }
            Due.is("100", x.gone(1), 100);
            Due.is("of ten", x.game(-1, other), 0);
            Due.is("none", x.count(3), 0);
            Due.is("0", x.gone(1), 0);
            Due.is("first again", x.game(1, 0), 1);
        }
    }

    private static void gameFull() {
        Due.words("A GAME .. (10 rows at most); Promise 25: how many there are .. FULL: 10");
        LastAtPump x = Due.street(0, 4, 0, 4, 0);
        for (int k = 1; k <= 10; k++) {
            Due.is("row " + k, x.game(1, 0), k);
            Due.is("so many", x.count(3), k);
            Due.is("so heavy", x.gone(1), 10 * k);
        }
        for (int what = 0; what <= 2; what++) {
            Due.is("an eleventh", x.game(what, 0), FULL);
        }
        Due.is("an eleventh, what 3", x.game(3, 0), NONE);
        Due.is("an eleventh, person 2", x.game(2, 2), NONE);
        Due.is("ten", x.count(3), 10);
        Due.is("as heavy", x.gone(1), 100);
    }

    private static void goneAStep() {
        Due.words("what goes (0 a STEP ..)");
        LastAtPump x = Due.street(0, 4, 0, 4, 0);
        Due.evening(x, "rain 9 s<10");
        for (int k = 1; k <= 10; k++) {
            x.game(0, 0);
            Due.all(k + " steps", new long[] {x.gone(0), x.gone(1), x.gone(2)}, k % 2, 9 * k, -5);
        }
        Due.is("nothing changes", x.told(0), 0);
        LastAtPump alone = Due.street(0, 4, 9);
        alone.game(0, 0);
        Due.all("alone none goes", new long[] {alone.gone(0), alone.gone(1), alone.gone(2)}, 0, 0, -5);
    }

    private static void goneWeight() {
        Due.words("1 WEIGHT is 10 more (999 at most)");
        int[][] weights = {{0, 10}, {988, 998}, {989, 999}, {990, 999}, {999, 999}};
        for (int[] weight : weights) {
            LastAtPump x = Due.street(0, 4, 0, 4, 0);
            x.weight(weight[0]);
            x.game(1, 0);
            Due.is("from " + weight[0], x.gone(1), weight[1]);
            Due.is("it stays", x.told(2), weight[0]);
        }
        LastAtPump nobody = new LastAtPump();
        nobody.game(1, 0);
        Due.all("nobody", new long[] {nobody.gone(0), nobody.gone(1), nobody.gone(2)}, -5, 10, -5);
    }

    private static void goneAtTheEnd() {
        Due.words("(at the END 0 does nothing, 1 and 2 go)");
        LastAtPump x = Due.street(0, 0, 0, 19, 1);
        Due.is("0 is last", x.step(), 2);
        Due.all("no rows", new long[] {x.gone(0), x.gone(1), x.gone(2)}, 0, 0, 0);
        x.game(0, 0);
        x.game(0, 0);
        Due.all("0", new long[] {x.gone(0), x.gone(1), x.gone(2)}, 0, 0, 0);
        x.game(1, 0);
        Due.all("1", new long[] {x.gone(0), x.gone(1), x.gone(2)}, 0, 10, 0);
        x.game(2, 0);
        Due.all("2, the same one", new long[] {x.gone(0), x.gone(1), x.gone(2)}, 0, 10, -5);
        x.game(0, 0);
        Due.all("0 goes then", new long[] {x.gone(0), x.gone(1), x.gone(2)}, 0, 10, 0);
        x.game(2, 1);
        Due.all("2, the other one", new long[] {x.gone(0), x.gone(1), x.gone(2)}, 1, 10, -5);
        x.game(0, 0);
        Due.all("it tells", new long[] {x.gone(0), x.gone(1), x.gone(2)}, 1, 15, -5);
        x.game(0, 0);
        x.game(0, 0);
        Due.all("it is last, and nothing goes", new long[] {x.gone(0), x.gone(1), x.gone(2)}, 1, 15, 1);
    }

    private static void goneWhat() {
        Due.words("Promise 26: what 0 WITH whom (-5), 1 WEIGHT, 2 LAST (-5). NONE.");
        LastAtPump x = new LastAtPump();
        Due.all("nobody", new long[] {x.gone(0), x.gone(1), x.gone(2)}, -5, 0, -5);
        for (int what : Due.outside(0, 2)) {
            Due.is("what " + what, x.gone(what), NONE);
        }
    }

    private static void bookSaid() {
        Due.words("A BOOK: PEOPLE, SAID (0 .. 9999 ..); Promise 27: BAD: said");
        LastAtPump x = Due.street(0, 4, 0, 4, 0);
        Due.is("0", x.book(1, 0), 1);
        Due.is("9999", x.book(1, 9999), 2);
        for (int said : Due.outside(0, 9999)) {
            Due.is("said " + said, x.book(1, said), BAD);
        }
        Due.is("two", x.count(4), 2);
        Due.is("9999 is otherwise", x.looked(), 1);
    }

    private static void bookPerson() {
        Due.words("Promise 27: NONE");
        LastAtPump x = Due.street(0, 4, 0, 4, 0);
        Due.is("1", x.book(1, 0), 1);
        for (int p : new int[] {-2, 2, 6, Integer.MIN_VALUE, Integer.MAX_VALUE}) {
            Due.is("person " + p, x.book(p, 0), NONE);
            Due.is("person " + p + ", bad", x.book(p, 10000), NONE);
        }
        Due.is("one", x.count(4), 1);
        Due.is("nobody there", new LastAtPump().book(0, 0), NONE);
    }

    private static void bookEmpty() {
        Due.words("Promise 27: (person -1: it is empty then, 0, whatever the other is)");
        for (int other : new int[] {0, 9999, 10000, -1, Integer.MIN_VALUE, Integer.MAX_VALUE}) {
            LastAtPump x = Due.street(0, 4, 0, 4, 0);
            Due.is("of none", x.book(-1, other), 0);
            for (int k = 1; k <= 8; k++) {
                Due.is("row", x.book(1, 7), k);
            }
            Due.is("the first is otherwise", x.looked(), 0);
            Due.is("of eight", x.book(-1, other), 0);
            Due.is("none", x.count(4), 0);
            Due.is("none is otherwise", x.looked(), -5);
            Due.is("first again", x.book(0, 0), 1);
        }
        Due.is("nobody there", new LastAtPump().book(-1, 0), 0);
    }

    private static void bookFull() {
        Due.words("A BOOK .. (8 at most); Promise 27: how many there are .. FULL: 8");
        LastAtPump x = Due.street(0, 4, 0, 4, 0);
        for (int k = 1; k <= 8; k++) {
            Due.is("row " + k, x.book(k % 2, 0), k);
            Due.is("so many", x.count(4), k);
        }
        for (int k = 0; k < 3; k++) {
            Due.is("a ninth", x.book(0, 1), FULL);
        }
        Due.is("a ninth, bad", x.book(0, 10000), BAD);
        Due.is("a ninth of nobody", x.book(2, 1), NONE);
        Due.is("eight", x.count(4), 8);
        Due.is("all is so: the ninth is not of it", x.looked(), -5);
    }

    private static void lookedFirst() {
        Due.words("LOOKED at: the number of the first of these rows by which it is otherwise now");
        for (int first = 0; first <= 7; first++) {
            LastAtPump x = Due.street(0, 4, 0, 4, 0);
            for (int k = 0; k <= 7; k++) {
                x.book(k % 2, k < first ? 0 : 1);
            }
            Due.is("row " + first, x.looked(), first);
        }
        LastAtPump x = Due.street(0, 0, 9, 19, 0);
        x.book(0, 1);
        x.book(0, 2);
        Due.is("0 now", x.looked(), 0);
        x.step();
        Due.is("1 now", x.looked(), 1);
        x.step();
        Due.is("2 now", x.looked(), 0);
    }

    private static void lookedNone() {
        Due.words("LOOKED at: .. (-5: none)");
        LastAtPump x = Due.street(0, 0, 9, 19, 0);
        Due.is("no rows", x.looked(), -5);
        x.book(0, 0);
        x.book(1, 0);
        Due.is("all is so", x.looked(), -5);
        x.step();
        Due.is("no more", x.looked(), 0);
        Due.is("nobody", new LastAtPump().looked(), -5);
    }

    /** People who hope 1, 2, 3; a TAPE 0 of bytes: 1, 2, 3, 1, 2. */
    private static LastAtPump judged() {
        LastAtPump x = Due.street(0, 0, 1, 0, 2, 0, 3);
        x.tape(0, 0, 5);
        for (int i = 0; i <= 4; i++) {
            x.item(0, i, i % 3 + 1);
        }
        return x;
    }

    private static void judgedFirst() {
        Due.words("HOPES told by a row of bytes, from a place on, one by one, are JUDGED: the first that is otherwise");
        for (int first = 0; first <= 2; first++) {
            LastAtPump x = judged();
            for (int i = first; i <= 2; i++) {
                x.item(0, i, 9);
            }
            Due.is("the first", x.judge(0, 0), first);
        }
        LastAtPump x = judged();
        Due.is("from 1 on", x.judge(0, 1), 0);
        x.set(0, 1, 2);
        x.set(1, 1, 3);
        Due.is("2, 3 are so, 1 is not", x.judge(0, 1), 2);
        Due.is("ahead of the end", x.judge(0, 4), 101);
        x.item(0, 4, 3);
        Due.is("otherwise ahead of the end", x.judge(0, 4), 0);
    }

    private static void judgedNone() {
        Due.words("JUDGED: .. -5: none");
        LastAtPump x = judged();
        Due.is("from 0 on", x.judge(0, 0), -5);
        x.set(0, 1, 3);
        x.set(1, 1, 1);
        x.set(2, 1, 2);
        Due.is("to the very end", x.judge(0, 2), -5);
    }

    private static void judgedNobody() {
        Due.words("JUDGED: .. -5: .. or there is none to look at");
        LastAtPump x = new LastAtPump();
        x.tape(0, 0, 5);
        Due.is("nobody", x.judge(0, 0), -5);
        Due.is("nobody, behind all", x.judge(0, 5), -5);
        x.tape(1, 1, 5);
        Due.is("nobody, another sort", x.judge(1, 0), CAST);
        Due.is("nobody, no tape", x.judge(6, 0), NONE);
    }

    private static void judgedRowEnds() {
        Due.words("JUDGED: .. 100 and how many were looked at, if the row ends ahead of that");
        LastAtPump x = judged();
        Due.is("two", x.judge(0, 3), 102);
        x.set(0, 1, 2);
        Due.is("one", x.judge(0, 4), 101);
        Due.is("none", x.judge(0, 5), 100);
        Due.is("none, beyond", x.judge(0, 6), 100);
        Due.is("none, far beyond", x.judge(0, Integer.MAX_VALUE), 100);
        Due.is("none, nearly as far", x.judge(0, Integer.MAX_VALUE - 1), 100);
        x.tape(0, 0, 0);
        Due.is("a row of none", x.judge(0, 0), 100);
        LastAtPump six = Due.street(0, 0, 0, 0, 0, 0, 0, 0, 0, 0, 0, 0, 0);
        for (int n = 0; n <= 5; n++) {
            six.tape(0, 0, n);
            Due.is(n + " of six", six.judge(0, 0), 100 + n);
        }
        six.tape(0, 0, 6);
        Due.is("six of six", six.judge(0, 0), -5);
        six.tape(0, 0, 60);
        Due.is("from 54 on", six.judge(0, 54), -5);
        Due.is("from 55 on", six.judge(0, 55), 105);
        Due.is("from 59 on", six.judge(0, 59), 101);
    }

    private static void judgedBelowNothing() {
        Due.words("JUDGED: .. 100 .. (or the place is below 0 ..)");
        LastAtPump x = judged();
        Due.is("-1", x.judge(0, -1), 100);
        Due.is("-3", x.judge(0, -3), 100);
        Due.is("min", x.judge(0, Integer.MIN_VALUE), 100);
        Due.is("0 is not", x.judge(0, 0), -5);
    }

    private static void judgedNothingHeld() {
        Due.words("JUDGED: .. 100 .. (.. or the TAPE holds nothing)");
        LastAtPump x = judged();
        Due.is("never held", x.judge(5, 0), 100);
        Due.is("at -1", x.judge(5, -1), 100);
        x.tape(0, -1, 0);
        Due.is("no more", x.judge(0, 0), 100);
    }

    private static void judgedBytes() {
        Due.words("HOPES told by a row of bytes (wrapped, below 0)");
        LastAtPump x = Due.street(0, 0, 0, 0, 9);
        x.tape(0, 0, 2);
        x.item(0, 0, 256);
        x.item(0, 1, 256 + 9);
        Due.is("lowest bits", x.judge(0, 0), -5);
        x.item(0, 1, -9);
        Due.is("below 0", x.judge(0, 0), 1);
        x.item(0, 1, 10);
        Due.is("10", x.judge(0, 0), 1);
        x.item(0, 0, 128);
        Due.is("-128", x.judge(0, 0), 0);
    }

    private static void judgedTapes() {
        Due.words("Promise 29: NONE: tape");
        LastAtPump x = judged();
        for (int tape : Due.outside(0, 5)) {
            Due.is("tape " + tape, x.judge(tape, 0), NONE);
        }
        x.tape(5, 0, 1);
        Due.is("tape 5", x.judge(5, 0), 0);
    }

    private static void judgedSorts() {
        Due.words("Promise 29: CAST: it is no row of bytes");
        LastAtPump x = judged();
        for (int sort = 1; sort <= 4; sort++) {
            x.tape(1, sort, 3);
            Due.is("sort " + sort, x.judge(1, 0), CAST);
            Due.is("sort " + sort + ", below 0", x.judge(1, -1), CAST);
            x.tape(1, sort, 0);
            Due.is("sort " + sort + " of none", x.judge(1, 0), CAST);
        }
    }

    private static void imageHowMany() {
        Due.words("Promise 30: THE IMAGE is taken: how many PEOPLE there are.");
        LastAtPump x = new LastAtPump();
        Due.is("nobody", x.image(), 0);
        for (int n = 1; n <= 6; n++) {
            x.person(0, 0, 0, 0);
            Due.is("of " + n, x.image(), n);
        }
    }

    private static void undoWithout() {
        Due.words("Promise 31: STATE: there is none.");
        LastAtPump x = Due.street(0, 0, 0, 19, 0);
        Due.is("none", x.undo(), STATE);
        Due.is("two still", x.count(0), 2);
        x.image();
        Due.is("one", x.undo(), 2);
        Due.is("it stays", x.undo(), 2);
    }

    private static void undoHowMany() {
        Due.words("Promise 31: All is as THE IMAGE: how many PEOPLE.");
        LastAtPump x = new LastAtPump();
        x.image();
        for (int p = 0; p <= 5; p++) {
            x.person(0, 0, 0, 0);
        }
        Due.is("nobody", x.undo(), 0);
        Due.is("none there", x.count(0), 0);
        Due.is("a first one again", x.person(0, 0, 0, 0), 0);
        x.image();
        for (int p = 1; p <= 5; p++) {
            x.person(0, 0, 0, 0);
        }
        Due.is("full", x.person(0, 0, 0, 0), FULL);
        Due.is("one", x.undo(), 1);
        Due.is("room again", x.person(0, 0, 0, 0), 1);
    }

    private static void undoPeople() {
        Due.words("THE IMAGE: PEOPLE with all that is theirs");
        LastAtPump x = new LastAtPump();
        x.person(6, 9, 0, 1);
        x.person(0, 0, 19, 9);
        x.row(0, 0, 1);
        x.row(0, 3, 9);
        Due.is("told", x.step(), 1);
        x.image();
        x.set(0, 0, 5);
        x.set(0, 1, 7);
        x.row(0, 0, 2);
        x.row(0, 3, 0);
        x.with(1);
        x.step();
        x.undo();
        Due.all("0", new long[] {x.of(0, 0), x.of(0, 1), x.of(0, 2), x.of(0, 3), x.of(0, 4)}, 6, 9, 0, 0, 1);
        Due.all("1", new long[] {x.of(1, 0), x.of(1, 1), x.of(1, 2), x.of(1, 3), x.of(1, 4)}, 0, 0, 19, 9, 0);
        Due.all("its row", new long[] {x.row(0, 0, 5), x.row(0, 1, 5), x.row(0, 2, 5), x.row(0, 3, 5)}, 1, 0, 0, 9);
        // Who was not there: what was of another one is none of its own.
        LastAtPump y = Due.street(0, 0, 9);
        y.image();
        y.person(6, 9, 19, 9);
        y.row(1, 0, 1);
        y.with(1);
        Due.is("it tells", y.step(), 1);
        y.undo();
        Due.is("another one", y.person(6, 1, 1, 1), 1);
        Due.all("its own", new long[] {y.of(1, 1), y.of(1, 2), y.of(1, 3), y.of(1, 4), y.row(1, 0, 0)}, 1, 1, 1, 0, 0);
    }

    private static void undoBucket() {
        Due.words("THE IMAGE: .. THE BUCKET, STEP, LAST");
        LastAtPump x = Due.street(0, 0, 0, 19, 1);
        x.weight(999);
        Due.is("0 is last", x.step(), 2);
        x.image();
        x.with(1);
        x.weight(0);
        x.step();
        x.step();
        Due.all("otherwise", new long[] {x.told(0), x.told(1), x.told(2), x.told(3)}, 3, 1, 5, 1);
        x.undo();
        Due.all("as it was", new long[] {x.told(0), x.told(1), x.told(2), x.told(3)}, 1, 0, 999, 0);
        Due.is("the end", x.step(), STATE);
    }

    private static void undoHand() {
        Due.words("THE IMAGE: .. SEEN, the GAME, the BOOK");
        LastAtPump x = Due.street(0, 4, 0, 4, 0);
        x.see(1, 0);
        x.game(1, 0);
        x.book(0, 1);
        x.image();
        x.see(0, 0);
        x.game(1, 0);
        x.book(0, 0);
        Due.all("more", new long[] {x.count(2), x.count(3), x.count(4)}, 2, 2, 2);
        x.undo();
        Due.all("one each", new long[] {x.count(2), x.count(3), x.count(4)}, 1, 1, 1);
        Due.all("as they were", new long[] {x.from(), x.gone(1), x.looked()}, 2, 10, 0);
        x.see(-1, 0);
        x.game(-1, 0);
        x.book(-1, 0);
        x.see(0, 0);
        x.game(2, 1);
        x.book(0, 0);
        Due.all("others", new long[] {x.from(), x.gone(0), x.looked()}, 1, 1, -5);
        x.undo();
        Due.all("as they were again", new long[] {x.from(), x.gone(0), x.gone(1), x.looked()}, 2, 0, 10, 0);
    }

    private static void undoEvening() {
        Due.words("THE IMAGE: .. which EVENING holds.");
        LastAtPump x = Due.street(0, 4, 0, 4, 0);
        x.image();
        Due.evening(x, "far 3;cost 4;rain 5 p=0");
        x.undo();
        Due.all("none", new long[] {x.told(4), x.told(5), x.of(0, 7), x.count(1)}, 12, 5, 0, 1);
        Due.is("the second", Due.evening(x, "far 6"), 1);
        x.image();
        Due.is("the third", Due.evening(x, "far 7"), 2);
        x.undo();
        Due.all("the second holds", new long[] {x.told(4), x.count(1)}, 6, 3);
        Due.is("the fourth", Due.evening(x, "far 8"), 3);
        Due.is("it holds", x.told(4), 8);
    }

    private static void undoAgain() {
        Due.words("Promise 30: THE IMAGE is taken (the latest one; it stays)");
        LastAtPump x = Due.street(0, 4, 0, 4, 0);
        x.weight(1);
        x.image();
        x.weight(2);
        x.image();
        x.weight(3);
        x.undo();
        Due.is("the latest", x.told(2), 2);
        x.weight(4);
        x.undo();
        Due.is("the latest again", x.told(2), 2);
        x.set(0, 0, 9);
        x.see(0, 0);
        x.undo();
        Due.all("nothing gets into it", new long[] {x.of(0, 2), x.count(2)}, 4, 0);
    }

    private static void undoNotTheRest() {
        Due.words("THE IMAGE: (no TEXT, no TRACE, no TAPES, nor how many EVENINGS there are)");
        LastAtPump x = Due.street(0, 4, 0, 4, 0);
        x.tape(0, 0, 1);
        x.act(0, 0, 1);
        Due.feed(x, "fa");
        x.image();
        x.item(0, 0, 7);
        x.tape(1, 3, 2);
        x.act(0, 2, 1);
        x.feed('r');
        x.undo();
        Due.all("all is as it is", new long[] {x.read(0, 0), x.read(1, 1), x.count(5), x.count(6), x.trace(0)},
                7, 0, 3, 3, 12);
    }
}
