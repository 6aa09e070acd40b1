/** Promises 36 to 39: tape, item, read, shift. */
public final class TapeTest {
    public static void main(String[] args) {
        tape();
        item();
        cuts();
        read();
        shift();
        refusedShifts();
        Due.end();
    }

    private static void tape() {
        LastAtPump x = new LastAtPump();
        Due.is("tape 6", x.tape(6, 9, 99), LastAtPump.NONE);
        Due.is("tape -1", x.tape(-1, 0, 0), LastAtPump.NONE);
        Due.is("sort 5", x.tape(0, 5, -1), LastAtPump.BAD);
        Due.is("sort -2", x.tape(0, -2, 0), LastAtPump.BAD);
        Due.is("n 61", x.tape(0, 0, 61), LastAtPump.BAD);
        Due.is("n -1", x.tape(0, 0, -1), -14);
        Due.is("n min", x.tape(0, 0, Integer.MIN_VALUE), -14);
        Due.is("nothing there still", x.item(0, 0, 0), -11);
        for (int tape = 0; tape <= 5; tape++) {
            Due.is("tape " + tape, x.tape(tape, Math.min(tape, 4), 60), 1);
            Due.is("last item", x.item(tape, 59, 1), 1);
            Due.is("beyond", x.item(tape, 60, 1), -13);
        }
        Due.is("again", x.tape(0, 3, 60), 1);
        Due.is("all 0", x.read(0, 59), 0);
        Due.is("refused", x.tape(1, 0, -5), -14);
        Due.is("it stays", x.read(1, 59), 1);
        Due.is("nothing", x.tape(0, -1, -5), 1);
        Due.is("nothing there", x.read(0, 0), LastAtPump.NO);
        Due.is("nothing, 99", x.tape(1, -1, 99), 1);
        Due.is("nothing there", x.item(1, 0, 1), -11);
        Due.is("a row of none", x.tape(2, 0, 0), 1);
        Due.is("it is there", x.item(2, 0, 0), -13);
    }

    private static void item() {
        LastAtPump x = new LastAtPump();
        x.tape(0, 3, 3);
        Due.is("tape 6", x.item(6, 0, 0), LastAtPump.NONE);
        Due.is("tape -1", x.item(-1, 0, 0), LastAtPump.NONE);
        Due.is("nothing", x.item(1, -1, 0), -11);
        Due.is("place -1", x.item(0, -1, 0), -13);
        Due.is("place 3", x.item(0, 3, 0), -13);
        Due.is("place max", x.item(0, Integer.MAX_VALUE, 0), -13);
        Due.is("place 2", x.item(0, 2, 7), 1);
        Due.all("items", new long[] {x.read(0, 0), x.read(0, 1), x.read(0, 2)}, 0, 0, 7);
    }

    private static void cuts() {
        long[] given = {127, 128, 255, 256, -129, 32767, 32768, -32769, 65536, 2147483647L, 2147483648L,
            -2147483649L, 4294967296L, Long.MIN_VALUE, Long.MAX_VALUE, 0, 1, -1};
        LastAtPump x = new LastAtPump();
        for (int sort = 0; sort <= 4; sort++) {
            x.tape(sort, sort, 1);
        }
        for (long v : given) {
            for (int sort = 0; sort <= 4; sort++) {
                x.item(sort, 0, v);
            }
            Due.all("cut of " + v, new long[] {x.read(0, 0), x.read(1, 0), x.read(2, 0), x.read(3, 0), x.read(4, 0)},
                    (byte) v, (short) v, (int) v, v, v == 0 ? 0 : 1);
        }
    }

    private static void read() {
        LastAtPump x = new LastAtPump();
        x.tape(0, 3, 2);
        x.item(0, 1, 5);
        Due.is("tape 6", x.read(6, 0), LastAtPump.NO);
        Due.is("tape -1", x.read(-1, 0), LastAtPump.NO);
        Due.is("nothing", x.read(1, 0), LastAtPump.NO);
        Due.is("place 2", x.read(0, 2), LastAtPump.NO);
        Due.is("place -1", x.read(0, -1), LastAtPump.NO);
        Due.is("place min", x.read(0, Integer.MIN_VALUE), LastAtPump.NO);
        Due.is("place 1", x.read(0, 1), 5);
    }

    private static long[] items(LastAtPump x, int tape, int n) {
        long[] items = new long[n];
        for (int i = 0; i < n; i++) {
            items[i] = x.read(tape, i);
        }
        return items;
    }

    /** A TAPE 0 of 1 2 3 4 5, a TAPE 1 of four 0s, of a sort. */
    private static LastAtPump two(int sort) {
        LastAtPump x = new LastAtPump();
        x.tape(0, sort, 5);
        x.tape(1, sort, 4);
        for (int i = 0; i < 5; i++) {
            x.item(0, i, i + 1);
        }
        return x;
    }

    private static void shift() {
        for (int sort = 0; sort <= 3; sort++) {
            LastAtPump x = two(sort);
            Due.is("to another", x.shift(0, 2, 1, 1, 3), 3);
            Due.all("another", items(x, 1, 4), 0, 3, 4, 5);
            Due.all("it stays", items(x, 0, 5), 1, 2, 3, 4, 5);
            Due.is("up", x.shift(0, 0, 0, 1, 4), 4);
            Due.all("as they were before", items(x, 0, 5), 1, 1, 2, 3, 4);
            Due.is("down", x.shift(0, 2, 0, 0, 3), 3);
            Due.all("as they were before, down", items(x, 0, 5), 2, 3, 4, 3, 4);
            Due.is("none", x.shift(0, 5, 1, 4, 0), 0);
            Due.all("nothing changed", items(x, 1, 4), 0, 3, 4, 5);
        }
        LastAtPump x = two(4);
        Due.is("booleans", x.shift(0, 0, 1, 2, 2), 2);
        Due.all("booleans", items(x, 1, 4), 0, 0, 1, 1);
    }

    private static void refusedShifts() {
        LastAtPump x = two(2);
        x.tape(2, 3, 5);
        Due.is("tape 6", x.shift(6, 0, 3, 0, -1), LastAtPump.NONE);
        Due.is("other 6", x.shift(3, 0, 6, 0, -1), LastAtPump.NONE);
        Due.is("tape -1", x.shift(-1, 0, 0, 0, 0), LastAtPump.NONE);
        Due.is("other -1", x.shift(0, 0, -1, 0, 0), LastAtPump.NONE);
        Due.is("from nothing", x.shift(3, -1, 2, 0, 1), -11);
        Due.is("to nothing", x.shift(0, -1, 3, 0, 1), -11);
        Due.is("unlike", x.shift(0, -1, 2, 0, 99), -12);
        Due.is("i -1", x.shift(0, -1, 1, 0, 1), -13);
        Due.is("j -1", x.shift(0, 0, 1, -1, 1), -13);
        Due.is("n -1", x.shift(0, 0, 1, 0, -1), -13);
        Due.is("i -1 of none", x.shift(0, -1, 1, 0, 0), -13);
        Due.is("beyond its end", x.shift(0, 3, 1, 0, 3), -13);
        Due.is("beyond the other's end", x.shift(0, 0, 1, 2, 3), -13);
        Due.is("none beyond its end", x.shift(0, 6, 1, 0, 0), -13);
        Due.is("none beyond the other's end", x.shift(0, 0, 1, 5, 0), -13);
        Due.is("max", x.shift(0, Integer.MAX_VALUE, 1, Integer.MAX_VALUE, Integer.MAX_VALUE), -13);
        Due.is("i 1, max", x.shift(0, 1, 1, 0, Integer.MAX_VALUE), -13);
        Due.is("j 1, max", x.shift(0, 0, 1, Integer.MAX_VALUE, 1), -13);
        Due.is("n min", x.shift(0, 1, 1, 1, Integer.MIN_VALUE), -13);
        Due.all("nothing changed", items(x, 1, 4), 0, 0, 0, 0);
        Due.is("all", x.shift(0, 1, 1, 0, 4), 4);
    }
}
