/** Promises 25 to 31: game, gone, book, looked, judge, image, undo. */
public final class GameTest {
    public static void main(String[] args) {
        game();
        gone();
        goneAtTheEnd();
        book();
        looked();
        judge();
        image();
        imageOfAll();
        Due.end();
    }

    private static void game() {
        LastAtPump x = Due.street(0, 0, 2, 19, 1);
        Due.is("step", x.game(0, 99), 1);
        Due.is("weight", x.game(1, -7), 2);
        Due.is("with", x.game(2, 1), 3);
        Due.is("with 2", x.game(2, 2), LastAtPump.NONE);
        Due.is("with -1", x.game(2, -1), LastAtPump.NONE);
        Due.is("what 3", x.game(3, 0), LastAtPump.NONE);
        Due.is("what -2", x.game(-2, 0), LastAtPump.NONE);
        for (int k = 4; k <= 10; k++) {
            Due.is("row " + k, x.game(0, 0), k);
        }
        Due.is("full", x.game(0, 0), LastAtPump.FULL);
        Due.is("none ahead of full", x.game(3, 0), LastAtPump.NONE);
        Due.is("none ahead of full by 2", x.game(2, 2), LastAtPump.NONE);
        Due.is("ten", x.count(3), 10);
        Due.is("empty", x.game(-1, 77), 0);
        Due.is("none", x.count(3), 0);
        Due.is("first", x.game(1, 0), 1);
    }

    private static void gone() {
        LastAtPump x = Due.street(0, 0, 2, 19, 1);
        Due.all("no rows", new long[] {x.gone(0), x.gone(1), x.gone(2)}, 0, 0, -5);
        x.game(0, 0);
        Due.all("told", new long[] {x.gone(0), x.gone(1), x.gone(2)}, 0, 5, -5);
        x.game(1, 0);
        Due.all("and 10", new long[] {x.gone(0), x.gone(1), x.gone(2)}, 0, 15, -5);
        x.game(2, 1);
        Due.all("with 1", new long[] {x.gone(0), x.gone(1), x.gone(2)}, 1, 15, -5);
        x.game(0, 0);
        x.game(0, 0);
        Due.all("1 is last", new long[] {x.gone(0), x.gone(1), x.gone(2)}, 1, 20, 1);
        Due.is("what 3", x.gone(3), LastAtPump.NONE);
        Due.is("what -1", x.gone(-1), LastAtPump.NONE);
        Due.all("nothing changed", new long[] {x.told(0), x.told(1), x.told(2), x.told(3)}, 0, 0, 0, -5);
        x.weight(985);
        Due.all("from how all is then", new long[] {x.gone(0), x.gone(1), x.gone(2)}, 1, 999, 1);
        LastAtPump nobody = new LastAtPump();
        nobody.game(0, 0);
        nobody.game(1, 0);
        Due.all("nobody", new long[] {nobody.gone(0), nobody.gone(1), nobody.gone(2)}, -5, 10, -5);
    }

    private static void goneAtTheEnd() {
        LastAtPump x = Due.street(0, 0, 0, 19, 1);
        x.step();
        x.game(0, 0);
        Due.all("0 does nothing", new long[] {x.gone(0), x.gone(1), x.gone(2)}, 0, 0, 0);
        x.game(1, 0);
        Due.all("1 goes", new long[] {x.gone(0), x.gone(1), x.gone(2)}, 0, 10, 0);
        x.game(2, 1);
        Due.all("2 goes", new long[] {x.gone(0), x.gone(1), x.gone(2)}, 1, 10, -5);
        x.game(0, 0);
        Due.all("and a step", new long[] {x.gone(0), x.gone(1), x.gone(2)}, 1, 15, -5);
    }

    private static void book() {
        LastAtPump x = Due.street(0, 0, 2, 19, 1);
        Due.is("first", x.book(0, 0), 1);
        Due.is("second", x.book(1, 9999), 2);
        Due.is("said 10000", x.book(0, 10000), LastAtPump.BAD);
        Due.is("said -1", x.book(0, -1), LastAtPump.BAD);
        Due.is("person 2", x.book(2, -1), LastAtPump.NONE);
        Due.is("person -2", x.book(-2, 0), LastAtPump.NONE);
        for (int k = 3; k <= 8; k++) {
            Due.is("row " + k, x.book(0, 0), k);
        }
        Due.is("full", x.book(0, 0), LastAtPump.FULL);
        Due.is("said ahead of full", x.book(0, 10000), LastAtPump.BAD);
        Due.is("eight", x.count(4), 8);
        Due.is("empty", x.book(-1, -1), 0);
        Due.is("none", x.count(4), 0);
    }

    private static void looked() {
        LastAtPump x = Due.street(0, 0, 2, 19, 1);
        Due.is("no rows", x.looked(), -5);
        x.book(1, 0);
        x.book(0, 0);
        x.book(0, 1);
        x.book(1, 1);
        Due.is("the third", x.looked(), 2);
        x.step();
        Due.is("the second", x.looked(), 1);
        x.book(-1, 0);
        x.book(0, 1);
        x.book(1, 0);
        Due.is("as it is", x.looked(), -5);
        x.with(1);
        x.step();
        Due.is("1 has told", x.looked(), 1);
    }

    private static void judge() {
        LastAtPump x = new LastAtPump();
        Due.is("nobody to look at", x.judge(0, 0), -5);
        for (int p = 0; p < 3; p++) {
            x.person(0, 0, 0, p + 3);
        }
        Due.is("tape 6", x.judge(6, 0), LastAtPump.NONE);
        Due.is("tape -1", x.judge(-1, 0), LastAtPump.NONE);
        Due.is("holds nothing", x.judge(0, 0), 100);
        for (int sort = 1; sort <= 4; sort++) {
            x.tape(0, sort, 9);
            Due.is("sort " + sort, x.judge(0, 0), -12);
        }
        x.tape(0, 0, 5);
        for (int k = 0; k < 5; k++) {
            x.item(0, k, k + 1);
        }
        Due.is("as told", x.judge(0, 2), -5);
        Due.is("the first is otherwise", x.judge(0, 1), 0);
        Due.is("the row ends behind two", x.judge(0, 3), 0);
        x.item(0, 3, 3);
        x.item(0, 4, 4);
        Due.is("it ends behind two", x.judge(0, 3), 102);
        x.item(0, 4, 3);
        Due.is("it ends behind one", x.judge(0, 4), 101);
        Due.is("nothing to look at", x.judge(0, 5), 100);
        Due.is("beyond", x.judge(0, 99), 100);
        Due.is("far beyond", x.judge(0, Integer.MAX_VALUE), 100);
        Due.is("below 0", x.judge(0, -1), 100);
        Due.is("far below 0", x.judge(0, Integer.MIN_VALUE), 100);
        Due.is("the second is otherwise", x.judge(0, 3), 1);
        x.item(0, 2, 3);
        x.item(0, 3, 4);
        x.item(0, 4, 261);
        Due.is("lowest bits", x.judge(0, 2), -5);
        x.item(0, 4, -251);
        Due.is("lowest bits below 0", x.judge(0, 2), -5);
        x.item(0, 4, 6);
        Due.is("the third is otherwise", x.judge(0, 2), 2);
        x.tape(0, 0, 0);
        Due.is("no items", x.judge(0, 0), 100);
    }

    private static void image() {
        LastAtPump x = new LastAtPump();
        Due.is("none yet", x.undo(), LastAtPump.STATE);
        Due.is("nobody", x.image(), 0);
        x.person(0, 0, 0, 0);
        Due.is("nobody then", x.undo(), 0);
        Due.is("nobody there", x.count(0), 0);
        Due.is("with nobody", x.told(1), -5);
        x.person(0, 0, 0, 0);
        x.person(0, 0, 19, 4);
        Due.is("two", x.image(), 2);
        x.with(1);
        x.step();
        Due.is("two then", x.undo(), 2);
        Due.all("all is as it was", new long[] {x.told(0), x.told(1), x.told(2), x.of(1, 3), x.of(1, 4)},
                0, 0, 0, 4, 0);
        x.step();
        Due.is("0 is last", x.told(3), 0);
        Due.is("undo again", x.undo(), 2);
        Due.is("nobody is last", x.told(3), -5);
        x.step();
        Due.is("a newer one", x.image(), 2);
        x.with(1);
        x.undo();
        Due.all("0 is last again", new long[] {x.told(0), x.told(1), x.told(3)}, 1, 0, 0);
    }

    private static void imageOfAll() {
        LastAtPump x = new LastAtPump();
        x.person(6, 7, 3, 5);
        x.person(1, 7, 4, 5);
        x.row(0, 2, 8);
        x.weight(321);
        Due.evening(x, "far 44;cost 33");
        x.see(0, 3);
        x.game(2, 1);
        x.book(1, 6);
        x.tape(0, 2, 4);
        Due.feed(x, "far 2");
        x.act(0, 1, 1);
        long trace = x.trace(0);
        x.image();
        x.set(0, 0, 9);
        x.set(1, 1, 9);
        x.row(0, 2, 1);
        x.row(0, 1, 1);
        x.weight(1);
        Due.is("a newer evening", x.evening(), 1);
        x.see(1, 3);
        x.see(1, 4);
        x.game(-1, 0);
        x.game(1, 0);
        x.game(1, 0);
        x.book(-1, 0);
        x.person(2, 2, 2, 2);
        x.with(2);
        x.item(0, 1, 55);
        Due.feed(x, "cost");
        x.act(1, 0, 9);
        Due.is("undo", x.undo(), 2);
        Due.all("people", new long[] {x.of(0, 0), x.of(0, 1), x.of(0, 2), x.of(0, 3), x.of(1, 0), x.of(1, 2),
                x.of(1, 3)}, 6, 7, 3, 5, 1, 4, 5);
        Due.all("what is told", new long[] {x.told(0), x.told(1), x.told(2), x.told(3), x.told(4), x.told(5)},
                0, 0, 321, -5, 44, 33);
        Due.all("the row", new long[] {x.row(0, 1, 0), x.row(0, 2, 0)}, 0, 8);
        Due.all("how many", new long[] {x.count(0), x.count(1), x.count(2), x.count(3), x.count(4)}, 2, 2, 1, 1, 1);
        Due.is("the game is as it was", x.gone(0), 1);
        Due.is("the book is as it was", x.looked(), 0);
        Due.all("tapes, text, trace are none of it", new long[] {x.read(0, 1), x.count(5), x.count(6)}, 55, 4, 1);
        Due.is("the trace is the newer one", x.trace(0) == trace ? 1 : 0, 0);
        Due.is("its fault", x.evening(), -14);
        Due.is("the evening of the image holds still", x.told(4), 44);
        Due.is("the third evening", Due.evening(x, "far 7"), 2);
        x.see(0, 60);
        x.undo();
        Due.all("again", new long[] {x.told(4), x.count(1), x.count(2)}, 44, 3, 1);
    }
}
