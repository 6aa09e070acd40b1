/** The edges that the document names of TAPES (terms 3; promises 36 to 39). */
public final class EdgeTapeTest {
    private static final int NONE = LastAtPump.NONE, BAD = LastAtPump.BAD, NOTHING = -11, CAST = -12, PLACE = -13,
            SIZE = -14;
    private static final long NO = LastAtPump.NO;
    private static final int MIN = Integer.MIN_VALUE, MAX = Integer.MAX_VALUE;

    public static void main(String[] args) {
        nothingAtFirst();
        tapeNumbers();
        tapeSorts();
        tapeSizes();
        tapeSizeBelowNothing();
        tapeNoItems();
        tapeAllZero();
        tapeNothing();
        itemNumbers();
        itemNothing();
        itemPlaces();
        itemBytes();
        itemShorts();
        itemInts();
        itemLongs();
        itemBooleans();
        readNone();
        shiftNumbers();
        shiftNothing();
        shiftUnlike();
        shiftBelowNothing();
        shiftBeyond();
        shiftNoItems();
        shiftAll();
        shiftAsBefore();
        Due.end();
    }

    private static void nothingAtFirst() {
        Due.words("TAPES 0 .. 5 hold nothing (at first)");
        LastAtPump x = new LastAtPump();
        for (int tape = 0; tape <= 5; tape++) {
            Due.is("read", x.read(tape, 0), NO);
            Due.is("item", x.item(tape, 0, 1), NOTHING);
            Due.is("shift", x.shift(tape, 0, tape, 0, 0), NOTHING);
        }
    }

    private static void tapeNumbers() {
        Due.words("Promise 36: NONE: tape");
        LastAtPump x = new LastAtPump();
        for (int tape = 0; tape <= 5; tape++) {
            Due.is("tape " + tape, x.tape(tape, 3, tape + 1), 1);
        }
        for (int tape : Due.outside(0, 5)) {
            Due.is("tape " + tape, x.tape(tape, 0, 0), NONE);
            Due.is("tape " + tape + ", bad", x.tape(tape, 5, 61), NONE);
            Due.is("tape " + tape + ", size", x.tape(tape, 0, -1), NONE);
            Due.is("tape " + tape + ", nothing", x.tape(tape, -1, 0), NONE);
        }
        for (int tape = 0; tape <= 5; tape++) {
            Due.is("its last item", x.read(tape, tape), 0);
            Due.is("no more", x.read(tape, tape + 1), NO);
        }
    }

    private static void tapeSorts() {
        Due.words("a row of 0 bytes, 1 shorts, 2 ints, 3 longs, 4 booleans; Promise 36: BAD: sort");
        LastAtPump x = new LastAtPump();
        for (int sort = 0; sort <= 4; sort++) {
            Due.is("sort " + sort, x.tape(0, sort, 2), 1);
            Due.is("two items", x.read(0, 1), 0);
        }
        for (int sort : new int[] {-2, 5, MIN, MAX}) {
            Due.is("sort " + sort, x.tape(0, sort, 1), BAD);
            Due.is("sort " + sort + ", 61", x.tape(0, sort, 61), BAD);
            Due.is("sort " + sort + ", -1", x.tape(0, sort, -1), BAD);
        }
        Due.is("two still", x.read(0, 1), 0);
        Due.is("of booleans still", x.item(0, 1, 77) * 100 + x.read(0, 1), 101);
    }

    private static void tapeSizes() {
        Due.words("Promise 36: a row of n (0 .. 60); BAD: n above 60");
        for (int sort = 0; sort <= 4; sort++) {
            LastAtPump x = new LastAtPump();
            Due.is("60", x.tape(0, sort, 60), 1);
            Due.is("the last", x.item(0, 59, 1), 1);
            Due.is("beyond", x.item(0, 60, 1), PLACE);
            Due.is("61", x.tape(0, sort, 61), BAD);
            Due.is("max", x.tape(0, sort, MAX), BAD);
            Due.is("it stays", x.read(0, 59), 1);
            Due.is("1", x.tape(0, sort, 1), 1);
            Due.is("the only one", x.read(0, 0), 0);
            Due.is("no second", x.read(0, 1), NO);
        }
    }

    private static void tapeSizeBelowNothing() {
        Due.words("SIZE (-14): a size below 0; Promise 36: SIZE");
        for (int sort = 0; sort <= 4; sort++) {
            LastAtPump x = new LastAtPump();
            Due.is("-1", x.tape(0, sort, -1), SIZE);
            Due.is("min", x.tape(0, sort, MIN), SIZE);
            Due.is("nothing there", x.read(0, 0), NO);
            Due.is("nothing", x.item(0, 0, 0), NOTHING);
            x.tape(0, 3, 1);
            x.item(0, 0, 7);
            Due.is("-1 again", x.tape(0, sort, -1), SIZE);
            Due.is("it stays", x.read(0, 0), 7);
        }
    }

    private static void tapeNoItems() {
        Due.words("Promise 36: a row of n (0 ..)");
        for (int sort = 0; sort <= 4; sort++) {
            LastAtPump x = new LastAtPump();
            Due.is("0", x.tape(0, sort, 0), 1);
            Due.is("no item", x.read(0, 0), NO);
            Due.is("a row, not nothing", x.item(0, 0, 0), PLACE);
            Due.is("none of none", x.shift(0, 0, 0, 0, 0), 0);
        }
    }

    private static void tapeAllZero() {
        Due.words("Promise 36: all 0");
        LastAtPump x = new LastAtPump();
        for (int sort = 0; sort <= 4; sort++) {
            x.tape(0, sort, 60);
            for (int i = 0; i <= 59; i++) {
                Due.is("item " + i, x.read(0, i), 0);
            }
            x.item(0, 0, 1);
            x.item(0, 59, 1);
        }
        x.tape(0, 4, 60);
        Due.all("made again", new long[] {x.read(0, 0), x.read(0, 59)}, 0, 0);
    }

    private static void tapeNothing() {
        Due.words("Promise 36: or holds nothing (sort -1: n does not matter): 1.");
        for (int n : new int[] {0, 60, 61, -1, MIN, MAX}) {
            LastAtPump x = new LastAtPump();
            Due.is("it held nothing", x.tape(5, -1, n), 1);
            x.tape(5, 3, 2);
            x.item(5, 0, 9);
            Due.is("it held two", x.tape(5, -1, n), 1);
            Due.is("nothing", x.item(5, 0, 0), NOTHING);
            Due.is("none", x.read(5, 0), NO);
            x.tape(5, 3, 2);
            Due.is("all 0 again", x.read(5, 0), 0);
        }
    }

    private static void itemNumbers() {
        Due.words("Promise 37: NONE");
        LastAtPump x = new LastAtPump();
        x.tape(0, 0, 1);
        x.tape(5, 0, 1);
        Due.all("0, 5", new long[] {x.item(0, 0, 1), x.item(5, 0, 2), x.read(0, 0), x.read(5, 0)}, 1, 1, 1, 2);
        for (int tape : Due.outside(0, 5)) {
            Due.is("tape " + tape, x.item(tape, 0, 3), NONE);
            Due.is("tape " + tape + ", no place", x.item(tape, -1, 3), NONE);
        }
        Due.all("they stay", new long[] {x.read(0, 0), x.read(5, 0)}, 1, 2);
    }

    private static void itemNothing() {
        Due.words("NOTHING (-11): nothing is there; Promise 37: NOTHING");
        LastAtPump x = new LastAtPump();
        for (int i : new int[] {0, 59, -1, 60, MIN, MAX}) {
            Due.is("place " + i, x.item(3, i, 1), NOTHING);
        }
        x.tape(3, 0, 1);
        Due.is("something", x.item(3, 0, 1), 1);
    }

    private static void itemPlaces() {
        Due.words("PLACE (-13): no such place; Promise 37: PLACE");
        LastAtPump x = new LastAtPump();
        x.tape(0, 2, 3);
        Due.all("0, 2", new long[] {x.item(0, 0, 5), x.item(0, 2, 6)}, 1, 1);
        for (int i : Due.outside(0, 2)) {
            Due.is("place " + i, x.item(0, i, 7), PLACE);
        }
        Due.is("59", x.item(0, 59, 7), PLACE);
        Due.all("they stay", new long[] {x.read(0, 0), x.read(0, 1), x.read(0, 2)}, 5, 0, 6);
        x.tape(0, 2, 60);
        Due.all("none came behind", new long[] {x.read(0, 3), x.read(0, 59)}, 0, 0);
    }

    private static void cut(int sort, long v, long due) {
        LastAtPump x = new LastAtPump();
        x.tape(0, sort, 3);
        Due.is("item " + v, x.item(0, 1, v), 1);
        Due.all("of " + v, new long[] {x.read(0, 0), x.read(0, 1), x.read(0, 2)}, 0, due, 0);
    }

    private static void itemBytes() {
        Due.words("Promise 37: v (its lowest bits, as many as an item has): bytes");
        cut(0, 127, 127);
        cut(0, 128, -128);
        cut(0, -128, -128);
        cut(0, -129, 127);
        cut(0, 255, -1);
        cut(0, 256, 0);
        cut(0, 1L << 32 | 7, 7);
        cut(0, Long.MIN_VALUE, 0);
        cut(0, Long.MAX_VALUE, -1);
    }

    private static void itemShorts() {
        Due.words("Promise 37: v (its lowest bits, as many as an item has): shorts");
        cut(1, 32767, 32767);
        cut(1, 32768, -32768);
        cut(1, -32768, -32768);
        cut(1, -32769, 32767);
        cut(1, 65535, -1);
        cut(1, 65536, 0);
        cut(1, Long.MIN_VALUE, 0);
        cut(1, Long.MAX_VALUE, -1);
    }

    private static void itemInts() {
        Due.words("Promise 37: v (its lowest bits, as many as an item has): ints");
        cut(2, 2147483647L, 2147483647L);
        cut(2, 2147483648L, -2147483648L);
        cut(2, -2147483648L, -2147483648L);
        cut(2, -2147483649L, 2147483647L);
        cut(2, 4294967295L, -1);
        cut(2, 4294967296L, 0);
        cut(2, Long.MIN_VALUE, 0);
        cut(2, Long.MAX_VALUE, -1);
    }

    private static void itemLongs() {
        Due.words("Promise 37: v (its lowest bits, as many as an item has): longs");
        cut(3, Long.MAX_VALUE, Long.MAX_VALUE);
        cut(3, Long.MIN_VALUE, Long.MIN_VALUE);
        cut(3, 4294967296L, 4294967296L);
        cut(3, -1, -1);
    }

    private static void itemBooleans() {
        Due.words("4 booleans (items 0, 1); Promise 37: booleans: whether v is not 0");
        cut(4, 0, 0);
        cut(4, 1, 1);
        cut(4, 2, 1);
        cut(4, -1, 1);
        cut(4, 256, 1);
        cut(4, 1L << 32, 1);
        cut(4, Long.MIN_VALUE, 1);
        cut(4, Long.MAX_VALUE, 1);
    }

    private static void readNone() {
        Due.words("Promise 38: NO: no such TAPE, nothing there, no such place.");
        LastAtPump x = new LastAtPump();
        x.tape(0, 3, 3);
        x.item(0, 0, 4);
        x.item(0, 2, 5);
        Due.all("0, 2", new long[] {x.read(0, 0), x.read(0, 2)}, 4, 5);
        for (int i : Due.outside(0, 2)) {
            Due.is("place " + i, x.read(0, i), NO);
        }
        for (int tape : Due.outside(0, 5)) {
            Due.is("tape " + tape, x.read(tape, 0), NO);
        }
        Due.is("nothing", x.read(5, 0), NO);
        x.tape(1, 3, 0);
        Due.is("no items", x.read(1, 0), NO);
    }

    /** TAPES 0, 5 of ints: 1 .. 4; 0, 0, 0. */
    private static LastAtPump two() {
        LastAtPump x = new LastAtPump();
        x.tape(0, 2, 4);
        x.tape(5, 2, 3);
        for (int i = 0; i <= 3; i++) {
            x.item(0, i, i + 1);
        }
        return x;
    }

    private static void stays(LastAtPump x) {
        Due.all("nothing changes", new long[] {x.read(0, 0), x.read(0, 1), x.read(0, 2), x.read(0, 3), x.read(0, 4),
                x.read(5, 0), x.read(5, 1), x.read(5, 2), x.read(5, 3)}, 1, 2, 3, 4, NO, 0, 0, 0, NO);
    }

    private static void shiftNumbers() {
        Due.words("Promise 39: NONE: tapes");
        LastAtPump x = two();
        for (int tape : Due.outside(0, 5)) {
            Due.is("from " + tape, x.shift(tape, 0, 0, 0, 1), NONE);
            Due.is("to " + tape, x.shift(0, 0, tape, 0, 1), NONE);
            Due.is("from " + tape + " to nothing", x.shift(tape, -1, 1, -1, -1), NONE);
            Due.is("from nothing to " + tape, x.shift(1, -1, tape, -1, -1), NONE);
            Due.is("from it to it", x.shift(tape, 0, tape, 0, 0), NONE);
        }
        stays(x);
    }

    private static void shiftNothing() {
        Due.words("Promise 39: NOTHING");
        LastAtPump x = two();
        x.tape(2, 3, 2);
        Due.is("from nothing", x.shift(1, 0, 0, 0, 1), NOTHING);
        Due.is("to nothing", x.shift(0, 0, 1, 0, 1), NOTHING);
        Due.is("both", x.shift(1, 0, 1, 0, 0), NOTHING);
        Due.is("none of nothing", x.shift(1, 0, 0, 0, 0), NOTHING);
        Due.is("no place either", x.shift(1, -1, 0, 99, -1), NOTHING);
        stays(x);
    }

    private static void shiftUnlike() {
        Due.words("CAST (-12): another sort; Promise 39: CAST: of unlike sorts");
        for (int sort = 0; sort <= 4; sort++) {
            for (int other = 0; other <= 4; other++) {
                LastAtPump x = new LastAtPump();
                x.tape(0, sort, 2);
                x.tape(1, other, 2);
                x.item(0, 0, 1);
                Due.is(sort + " to " + other, x.shift(0, 0, 1, 1, 1), sort == other ? 1 : CAST);
                Due.is("item", x.read(1, 1), sort == other ? 1 : 0);
                Due.is(sort + " to " + other + ", none", x.shift(0, 0, 1, 1, 0), sort == other ? 0 : CAST);
                Due.is(sort + " to " + other + ", no place", x.shift(0, -1, 1, 1, 1), sort == other ? PLACE : CAST);
            }
        }
    }

    private static void shiftBelowNothing() {
        Due.words("Promise 39: PLACE: n, i or j is below 0");
        LastAtPump x = two();
        for (int below : new int[] {-1, -4, MIN}) {
            Due.is("n", x.shift(0, 1, 5, 1, below), PLACE);
            Due.is("i", x.shift(0, below, 5, 1, 1), PLACE);
            Due.is("j", x.shift(0, 1, 5, below, 1), PLACE);
            Due.is("i of none", x.shift(0, below, 5, 1, 0), PLACE);
            Due.is("j of none", x.shift(0, 1, 5, below, 0), PLACE);
            Due.is("all", x.shift(0, below, 5, below, below), PLACE);
            Due.is("n of the same", x.shift(0, 1, 0, 1, below), PLACE);
        }
        stays(x);
    }

    private static void shiftBeyond() {
        Due.words("Promise 39: PLACE: .. or beyond either's end");
        LastAtPump x = two();
        Due.is("its end", x.shift(0, 2, 5, 0, 3), PLACE);
        Due.is("the other's end", x.shift(0, 0, 5, 2, 2), PLACE);
        Due.is("n", x.shift(0, 0, 5, 0, 4), PLACE);
        Due.is("n of both", x.shift(0, 0, 5, 0, 5), PLACE);
        Due.is("n of the same", x.shift(0, 0, 0, 1, 4), PLACE);
        Due.is("i max", x.shift(0, MAX, 5, 0, 1), PLACE);
        Due.is("j max", x.shift(0, 0, 5, MAX, 1), PLACE);
        Due.is("n max", x.shift(0, 0, 5, 0, MAX), PLACE);
        Due.is("i and n wrap", x.shift(0, 1, 5, 0, MAX), PLACE);
        Due.is("j and n wrap", x.shift(0, 0, 5, 1, MAX), PLACE);
        Due.is("all max", x.shift(0, MAX, 5, MAX, MAX), PLACE);
        stays(x);
    }

    private static void shiftNoItems() {
        Due.words("Promise 39: n items: n (0)");
        LastAtPump x = two();
        Due.is("at both beginnings", x.shift(0, 0, 5, 0, 0), 0);
        Due.is("at both ends", x.shift(0, 4, 5, 3, 0), 0);
        Due.is("behind its end", x.shift(0, 5, 5, 3, 0), PLACE);
        Due.is("behind the other's end", x.shift(0, 4, 5, 4, 0), PLACE);
        stays(x);
        x.tape(1, 2, 0);
        Due.is("to a row of none", x.shift(0, 4, 1, 0, 0), 0);
        Due.is("from a row of none", x.shift(1, 0, 0, 4, 0), 0);
        Due.is("one to a row of none", x.shift(0, 0, 1, 0, 1), PLACE);
        stays(x);
    }

    private static void shiftAll() {
        Due.words("Promise 39: n items of a TAPE from i on come to another one from j on: n (all there are)");
        LastAtPump x = two();
        Due.is("three, to its end", x.shift(0, 1, 5, 0, 3), 3);
        Due.all("three", new long[] {x.read(5, 0), x.read(5, 1), x.read(5, 2)}, 2, 3, 4);
        Due.is("the last to the first", x.shift(5, 2, 0, 0, 1), 1);
        Due.is("the first to the last", x.shift(5, 0, 0, 3, 1), 1);
        Due.all("four", new long[] {x.read(0, 0), x.read(0, 1), x.read(0, 2), x.read(0, 3)}, 4, 2, 3, 2);
        LastAtPump y = new LastAtPump();
        y.tape(3, 0, 60);
        y.tape(4, 0, 60);
        y.item(3, 0, 5);
        y.item(3, 59, 6);
        Due.is("sixty", y.shift(3, 0, 4, 0, 60), 60);
        Due.all("sixty", new long[] {y.read(4, 0), y.read(4, 59), y.read(4, 1)}, 5, 6, 0);
        Due.is("sixty one", y.shift(3, 0, 4, 0, 61), PLACE);
    }

    private static void shiftAsBefore() {
        Due.words("Promise 39: (or the same) .. as they all were before");
        for (int sort = 0; sort <= 3; sort++) {
            LastAtPump x = new LastAtPump();
            x.tape(0, sort, 4);
            for (int i = 0; i <= 3; i++) {
                x.item(0, i, i + 1);
            }
            Due.is("up", x.shift(0, 0, 0, 1, 3), 3);
            Due.all("up", new long[] {x.read(0, 0), x.read(0, 1), x.read(0, 2), x.read(0, 3)}, 1, 1, 2, 3);
            Due.is("down", x.shift(0, 1, 0, 0, 3), 3);
            Due.all("down", new long[] {x.read(0, 0), x.read(0, 1), x.read(0, 2), x.read(0, 3)}, 1, 2, 3, 3);
            Due.is("where they are", x.shift(0, 0, 0, 0, 4), 4);
            Due.all("as they are", new long[] {x.read(0, 0), x.read(0, 1), x.read(0, 2), x.read(0, 3)}, 1, 2, 3, 3);
        }
        LastAtPump x = new LastAtPump();
        x.tape(0, 4, 3);
        x.item(0, 0, 1);
        Due.is("booleans, up", x.shift(0, 0, 0, 1, 2), 2);
        Due.all("booleans", new long[] {x.read(0, 0), x.read(0, 1), x.read(0, 2)}, 1, 1, 0);
    }
}
