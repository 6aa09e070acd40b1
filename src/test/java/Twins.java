import java.util.Arrays;
import java.util.function.Supplier;

/** Two objects that went the same way; one of them is asked something more. If that changes nothing, all that can be
 *  asked of both, and all that they do from then on, is the same. */
final class Twins {
    interface Call {
        long of(LastAtPump x);
    }

    private final Supplier<LastAtPump> scene;
    private final String name;

    Twins(String name, Supplier<LastAtPump> scene) {
        this.name = name;
        this.scene = scene;
    }

    /** What a call answers, and that it changes nothing. */
    void refuses(String words, Call call, long due) {
        LastAtPump one = scene.get();
        Due.is(name + ": " + words, call.of(one), due);
        same(words, one);
    }

    /** That a call changes nothing, whatever it answers. */
    void asks(String words, Call call) {
        LastAtPump one = scene.get();
        long first = call.of(one);
        Due.is(name + ": " + words + ", asked again", call.of(one), first);
        same(words, one);
    }

    /** That two calls change the same. */
    void alike(String words, Call call, Call other) {
        LastAtPump one = scene.get();
        LastAtPump two = scene.get();
        Due.is(name + ": " + words, call.of(one), other.of(two));
        Due.all(name + ": behind " + words, new Facts(one).all(), new Facts(two).all());
    }

    /** That a call changes something: else the others' sameness says nothing. */
    void changes(String words, Call call) {
        LastAtPump one = scene.get();
        call.of(one);
        long[] got = new Facts(one).all();
        long[] due = new Facts(scene.get()).all();
        Due.is(name + ": " + words + " changes something", Arrays.equals(got, due) ? 0 : 1, 1);
    }

    private void same(String words, LastAtPump one) {
        Due.all(name + ": behind " + words, new Facts(one).all(), new Facts(scene.get()).all());
    }

    /** All that can be asked of an object, some 250 calls; it is another one then. */
    private static final class Facts {
        private final LastAtPump x;
        private final long[] facts = new long[400];
        private int size;

        Facts(LastAtPump x) {
            this.x = x;
        }

        private void fact(long answer) {
            facts[size] = answer;
            size++;
        }

        long[] all() {
            for (int what = 0; what <= 6; what++) {
                fact(x.count(what));
            }
            for (int i = 0; i <= 12; i++) {
                fact(x.trace(i));
            }
            scene();
            tapes();
            fact(x.evening());
            fact(x.count(1));
            fact(x.count(5));
            holds();
            for (int k = 0; k < 3; k++) {
                fact(x.step());
                fact(x.told(1));
                fact(x.told(2));
            }
            fact(x.undo());
            for (int what = 2; what <= 4; what++) {
                fact(x.count(what));
            }
            scene();
            return Arrays.copyOf(facts, size);
        }

        private void scene() {
            int people = x.count(0);
            for (int p = 0; p < people; p++) {
                for (int what = 0; what <= 7; what++) {
                    fact(x.of(p, what));
                }
                for (int part = 0; part <= 3; part++) {
                    int was = x.row(p, part, 0);
                    fact(was);
                    if (was > 0) {
                        fact(x.row(p, part, was));
                    }
                }
            }
            for (int what = 0; what <= 5; what++) {
                fact(x.told(what));
            }
            fact(x.looked());
            fact(x.from());
            fact(x.had(0, 0));
            for (int what = 0; what <= 2; what++) {
                fact(x.gone(what));
            }
        }

        private void holds() {
            fact(x.told(4));
            fact(x.told(5));
            for (int p = 0; p < x.count(0); p++) {
                fact(x.of(p, 7));
            }
        }

        private void tapes() {
            for (int tape = 0; tape <= 5; tape++) {
                fact(x.read(tape, 0));
                fact(x.read(tape, 1));
                // A row's last place, and its sort by how this is cut.
                fact(x.item(tape, 2, (1L << 40) + (1 << 20) + 300));
                fact(x.item(tape, 3, 1));
                fact(x.read(tape, 2));
            }
        }
    }
}
