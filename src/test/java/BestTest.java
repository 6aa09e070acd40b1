/** Promises 15 to 19: stand, needs, heavy, change, mute. */
public final class BestTest {
    public static void main(String[] args) {
        stand();
        standTellsLeast();
        standTellsSome();
        needs();
        heavy();
        change();
        mute();
        Due.end();
    }

    private static void stand() {
        LastAtPump x = Due.street(0, 0, 2, 19, 1);
        Due.is("the least of those that reach", x.stand(0, 5, 0), 7);
        Due.is("nothing told", x.stand(0, 5, 1), 0);
        Due.is("who has it not tells nothing anywhere", x.stand(1, 5, 0), 0);
        Due.is("nor this", x.stand(1, 5, 1), 0);
        Due.is("its door stays", x.of(0, 2), 0);
        Due.is("what 2", x.stand(0, 0, 2), LastAtPump.NONE);
        Due.is("what -1", x.stand(0, 1, -1), LastAtPump.NONE);
        Due.is("person 2", x.stand(2, 0, 0), LastAtPump.NONE);
        Due.is("n 0", x.stand(0, 0, 0), LastAtPump.BAD);
        Due.is("n 61", x.stand(0, 61, 1), LastAtPump.BAD);
        Due.is("n 1", x.stand(0, 1, 0), 7);
        Due.is("n 60", x.stand(0, 60, 0), 7);
        // At the END none goes: nothing is told anywhere.
        LastAtPump y = Due.street(0, 0, 0, 19, 1);
        y.step();
        Due.is("at the end", y.stand(0, 9, 0), 0);
        Due.is("nothing at the end", y.stand(0, 9, 1), 0);
    }

    private static void standTellsLeast() {
        // By far 0 one carries only to its own door; what was told already does not count.
        LastAtPump x = Due.street(0, 4, 9, 6, 9, 16, 9);
        Due.evening(x, "far 0;cost 0");
        Due.is("tells", x.step(), 1);
        Due.is("tells", x.step(), 1);
        Due.is("at the other's", x.stand(0, 3, 0), 6);
        Due.is("none", x.stand(0, 3, 1), 0);
        LastAtPump sly = Due.street(3, 4, 5, 6, 9, 16, 9);
        Due.evening(sly, "far 5;cost 1");
        Due.is("the least door that reaches 6", sly.stand(0, 9, 0), 1);
        LastAtPump weary = Due.street(4, 4, 7, 3, 9);
        Due.evening(weary, "far 0");
        Due.is("weary: at the other's", weary.stand(0, 20, 0), 3);
    }

    /** 0 carries it to 1, if that stands within 4; 1 tells, then carries it to 2, and 2 to 0, wherever that is from
     *  door 1 on; to 2, who hopes most then, 0 can't carry it from any door that was within 4 of 1. */
    private static void standTellsSome() {
        LastAtPump x = new LastAtPump();
        x.person(3, 0, 19, 5);
        x.person(6, 0, 5, 6);
        x.person(6, 0, 14, 6);
        x.row(1, 2, 6);
        x.row(2, 3, 9);
        Due.evening(x, "far 4;cost 0");
        Due.all("four steps", new long[] {x.stand(0, 4, 0), x.stand(0, 4, 1)}, 1, 0);
        Due.all("five steps", new long[] {x.stand(0, 5, 0), x.stand(0, 5, 1)}, 1, 1);
        Due.all("six steps", new long[] {x.stand(0, 6, 0), x.stand(0, 6, 1)}, 1, 2);
    }

    private static void needs() {
        LastAtPump x = Due.street(0, 0, 2, 19, 1);
        Due.is("one a step", x.needs(0, 5), 5);
        Due.is("nine", x.needs(0, 9), 9);
        Due.is("none is enough", x.needs(0, 10), -5);
        Due.is("one", x.needs(0, 1), 1);
        Due.is("who has it not", x.needs(1, 60), 0);
        Due.is("person 2", x.needs(2, 0), LastAtPump.NONE);
        Due.is("n 0", x.needs(0, 0), LastAtPump.BAD);
        Due.is("n 61", x.needs(0, 61), LastAtPump.BAD);
        Due.is("n 60", x.needs(0, 60), -5);
        Due.is("hopes stay", x.of(0, 3), 2);
        for (int k = 0; k < 3; k++) {
            x.step();
        }
        Due.is("it is last already", x.needs(0, 1), -5);
        Due.is("another one is", x.needs(1, 1), 0);
    }

    private static void heavy() {
        LastAtPump x = Due.street(0, 10, 0, 19, 0);
        x.person(1, 4, 10, 0);
        x.person(4, 4, 10, 0);
        x.person(2, 4, 10, 0);
        x.person(3, 4, 10, 0);
        Due.is("to who is at its door", x.heavy(0), 999);
        Due.is("9 doors on", x.heavy(1), 31);
        x.set(1, 0, 18);
        Due.is("8 doors on", x.heavy(1), 39);
        x.set(0, 0, 0);
        x.set(3, 0, 6);
        x.set(4, 0, 5);
        x.set(5, 0, 12);
        Due.is("old: 2 doors on, and 2 less", x.heavy(2), 71);
        Due.is("weary: 1 door on, half of 2", x.heavy(3), 71);
        Due.is("person: 5 doors on", x.heavy(0), 63);
        Due.is("child: 1 door on", x.heavy(4), 999);
        Due.is("sly: to the first", x.heavy(5), 7);
        Due.is("weight stays", x.told(2), 0);
        Due.is("the bucket stays", x.told(1), 0);
        Due.is("person 6", x.heavy(6), LastAtPump.NONE);
        Due.is("person -1", x.heavy(-1), LastAtPump.NONE);
        Due.is("nobody else", Due.street(0, 3, 3).heavy(0), -5);
        Due.is("none", Due.street(0, 0, 3, 13, 3).heavy(0), -5);
        Due.is("at most 7", Due.street(0, 0, 3, 12, 3).heavy(0), 7);
        // Which of them a CHILD would carry it to is as that WEIGHT has it.
        Due.is("child: whoever is within", Due.street(2, 0, 3, 3, 3, 14, 3).heavy(0), 95);
        LastAtPump far = Due.street(0, 0, 3, 1, 3);
        Due.evening(far, "far 99");
        Due.is("far 99", far.heavy(0), 791);
    }

    private static void change() {
        LastAtPump x = Due.street(0, 0, 0, 13, 0);
        Due.is("alike", x.change(), -5);
        Due.is("alone", Due.street(0, 0, 0).change(), -5);
        Due.is("nobody", new LastAtPump().change(), -5);
        LastAtPump y = Due.street(0, 0, 1, 13, 0, 14, 0);
        Due.is("0 with 1: beside 2", y.change(), 1);
        Due.is("doors stay", y.of(0, 2), 0);
        LastAtPump z = Due.street(0, 13, 0, 0, 0, 14, 0, 19, 0);
        Due.is("as long as can be already", z.change(), -5);
        LastAtPump u = Due.street(0, 0, 0, 18, 0, 19, 9, 19, 0);
        Due.is("0 with 1", u.change(), 1);
        // Only 1 with 2 helps: 0 carries it to whom is nearest, and but 2 hopes then.
        LastAtPump w = Due.street(0, 0, 0, 9, 0, 19, 9);
        Due.evening(w, "far 12;rain 99 p=0");
        Due.is("1 with 2", w.change(), 12);
        LastAtPump ended = Due.street(0, 0, 0, 13, 0, 14, 0);
        ended.step();
        Due.is("at the end", ended.change(), -5);
    }

    private static void mute() {
        LastAtPump x = Due.street(0, 0, 2, 19, 1);
        Due.is("both tell", x.mute(60), 0);
        Due.is("n 0", x.mute(0), LastAtPump.BAD);
        Due.is("n 61", x.mute(61), LastAtPump.BAD);
        x.set(1, 1, 0);
        Due.is("1 has no hopes", x.mute(60), 2);
        x.set(0, 1, 0);
        Due.is("nobody has", x.mute(1), 3);
        x.step();
        x.set(1, 1, 1);
        Due.is("nobody is last any more", x.mute(1), 1);
        Due.is("nobody", new LastAtPump().mute(60), 0);
        Due.is("alone", Due.street(0, 4, 4).mute(60), 1);
        // 0 told, but tells nothing more.
        LastAtPump y = Due.street(0, 0, 1, 19, 0);
        y.step();
        Due.is("told ahead of now", y.mute(60), 3);
        LastAtPump z = Due.street(0, 0, 9, 12, 9, 13, 9);
        Due.evening(z, "rain 8 p=2;cost 0");
        Due.is("one step", z.mute(1), 7);
        Due.is("two steps: 1 to 2, 2 to 1", z.mute(2), 7);
        // 2 gives it to 1, 8 heavier each time: it is 1 who can't carry it by 96.
        Due.is("sixty steps", z.mute(60), 5);
    }
}
