/** The edges that the document names of PEOPLE and THE BUCKET (terms 1; promises 1 to 7), sentence by sentence. */
public final class EdgePeopleTest {
    private static final int NONE = LastAtPump.NONE, BAD = LastAtPump.BAD, STATE = LastAtPump.STATE,
            FULL = LastAtPump.FULL;

    public static void main(String[] args) {
        nobodyAtFirst();
        peopleAreSix();
        kinds();
        v();
        doors();
        hopes();
        said();
        withAtFirst();
        withNobody();
        weight();
        stepAtFirst();
        lastAtFirst();
        nobodyIsLastByWith();
        nobodyIsLastByAGame();
        nobodyIsLastByShouldBe();
        nobodyIsLastByWhoever();
        nobodyIsLastByCanBe();
        nobodyIsLastByIfItIs();
        lastStaysElse();
        ofWhom();
        ofWhat();
        ofNobodyElse();
        setDoor();
        setHopes();
        setNone();
        rowsAtFirst();
        rowTakes();
        rowRefuses();
        rowOfAnotherKind();
        withWhom();
        Due.end();
    }

    private static LastAtPump people(int n) {
        LastAtPump x = new LastAtPump();
        for (int p = 0; p < n; p++) {
            x.person(0, 0, p, p);
        }
        return x;
    }

    /** 0 is LAST; it stands at 0, 1 at 19 with so many HOPES. */
    private static LastAtPump ended(int hopes) {
        LastAtPump x = Due.street(0, 0, 0, 19, hopes);
        Due.is("0 is last", x.step(), 2);
        return x;
    }

    private static void nobodyAtFirst() {
        Due.words("Promise 1: Nobody, no EVENING.");
        LastAtPump x = new LastAtPump();
        Due.is("people", x.count(0), 0);
        Due.is("evenings", x.count(1), 0);
        Due.is("of", x.of(0, 0), -1001);
        Due.is("far", x.told(4), 12);
        Due.is("cost", x.told(5), 5);
        Due.is("rows seen", x.count(2), 0);
        Due.is("rows of the game", x.count(3), 0);
        Due.is("rows of the book", x.count(4), 0);
        Due.is("bytes", x.count(5), 0);
        Due.is("bodies", x.count(6), 0);
        for (int tape = 0; tape <= 5; tape++) {
            Due.is("a tape holds nothing", x.item(tape, 0, 0), -11);
        }
        Due.is("no image", x.undo(), STATE);
        Due.is("nobody in another object", new LastAtPump().count(0), 0);
    }

    private static void peopleAreSix() {
        Due.words("PEOPLE 0 .. 5, as they come; FULL: 6");
        LastAtPump x = new LastAtPump();
        for (int p = 0; p <= 5; p++) {
            Due.is("not yet", x.of(p, 0), -1001);
            Due.is("comes", x.person(p, 1, p, 0), p);
            Due.is("people", x.count(0), p + 1);
            Due.is("its kind", x.of(p, 0), p);
        }
        Due.is("a seventh", x.person(0, 0, 0, 0), FULL);
        Due.is("six still", x.count(0), 6);
        Due.is("none came", x.of(6, 0), -1001);
        Due.is("the sixth stays", x.of(5, 0), 5);
        Due.is("a seventh again", x.person(6, 9, 19, 9), FULL);
    }

    private static void kinds() {
        Due.words("KINDS: 0 PERSON .. 6 TOLD; NONE: kind");
        for (int kind = 0; kind <= 6; kind++) {
            LastAtPump x = new LastAtPump();
            Due.is("kind " + kind, x.person(kind, 0, 0, 0), 0);
            Due.is("it is of it", x.of(0, 0), kind);
        }
        for (int kind : Due.outside(0, 6)) {
            LastAtPump x = new LastAtPump();
            Due.is("kind " + kind, x.person(kind, 0, 0, 0), NONE);
            Due.is("nobody", x.count(0), 0);
        }
    }

    private static void v() {
        Due.words("a number v (0 .. 9); BAD: v");
        LastAtPump x = new LastAtPump();
        Due.is("0", x.person(1, 0, 0, 0), 0);
        Due.is("9", x.person(1, 9, 0, 0), 1);
        Due.is("v 0", x.of(0, 1), 0);
        Due.is("v 9", x.of(1, 1), 9);
        for (int v : Due.outside(0, 9)) {
            Due.is("v " + v, x.person(1, v, 0, 0), BAD);
        }
        Due.is("two", x.count(0), 2);
    }

    private static void doors() {
        Due.words("a DOOR (0 .. 19); BAD: door");
        LastAtPump x = new LastAtPump();
        Due.is("0", x.person(0, 0, 0, 0), 0);
        Due.is("19", x.person(0, 0, 19, 0), 1);
        Due.is("door 0", x.of(0, 2), 0);
        Due.is("door 19", x.of(1, 2), 19);
        for (int door : Due.outside(0, 19)) {
            Due.is("door " + door, x.person(0, 0, door, 0), BAD);
        }
        Due.is("two", x.count(0), 2);
    }

    private static void hopes() {
        Due.words("HOPES (0 .. 9); BAD: hopes");
        LastAtPump x = new LastAtPump();
        Due.is("0", x.person(0, 0, 0, 0), 0);
        Due.is("9", x.person(0, 0, 0, 9), 1);
        Due.is("hopes 0", x.of(0, 3), 0);
        Due.is("hopes 9", x.of(1, 3), 9);
        for (int hopes : Due.outside(0, 9)) {
            Due.is("hopes " + hopes, x.person(0, 0, 0, hopes), BAD);
        }
        Due.is("two", x.count(0), 2);
    }

    private static void said() {
        Due.words("SAID (how many it has told; 0 at first; 9999 at most)");
        LastAtPump x = Due.street(0, 0, 9, 19, 9);
        Due.is("0", x.of(0, 4), 0);
        Due.is("1 of 1", x.of(1, 4), 0);
        // No run of 512 calls comes to 9999; so many it does, and nothing holds them.
        for (int told = 1; told <= 150; told++) {
            x.set(0, 1, 9);
            Due.is("told", x.step(), 1);
            Due.is("said", x.of(0, 4), told);
        }
        Due.is("asked", x.on(9, 20), 158);
    }

    private static void withAtFirst() {
        Due.words("WITH one of them (with 0 at first)");
        LastAtPump x = new LastAtPump();
        x.person(0, 0, 7, 0);
        Due.is("the first", x.told(1), 0);
        x.person(0, 0, 8, 9);
        Due.is("the first still", x.told(1), 0);
        Due.is("it was with 0", x.with(1), 0);
        x.person(0, 0, 9, 9);
        Due.is("with 1, whoever comes", x.told(1), 1);
    }

    private static void withNobody() {
        Due.words("with nobody while there are none");
        LastAtPump x = new LastAtPump();
        Due.is("told", x.told(1), -5);
        Due.is("on", x.on(0, 0), -5);
        Due.is("on 99", x.on(99, 0), -5);
        Due.is("gone", x.gone(0), -5);
        Due.is("with", x.with(0), NONE);
        x.image();
        x.person(0, 0, 0, 0);
        x.person(0, 0, 0, 0);
        x.with(1);
        Due.is("nobody again", x.undo(), 0);
        Due.is("told then", x.told(1), -5);
        Due.is("gone then", x.gone(0), -5);
        x.person(0, 0, 0, 0);
        Due.is("with 0 then", x.told(1), 0);
    }

    private static void weight() {
        Due.words("its WEIGHT (0 .. 999; 0 at first)");
        LastAtPump x = new LastAtPump();
        Due.is("at first", x.told(2), 0);
        Due.is("999", x.weight(999), 0);
        Due.is("is 999", x.told(2), 999);
        Due.is("998", x.weight(998), 999);
        Due.is("0", x.weight(0), 998);
        Due.is("is 0", x.told(2), 0);
        Due.is("1", x.weight(1), 0);
        for (int n : Due.outside(0, 999)) {
            Due.is("weight " + n, x.weight(n), BAD);
            Due.is("it stays", x.told(2), 1);
        }
    }

    private static void stepAtFirst() {
        Due.words("STEP: 0 at first.");
        LastAtPump x = people(2);
        Due.is("step", x.told(0), 0);
        x.step();
        Due.is("then", x.told(0), 1);
    }

    private static void lastAtFirst() {
        Due.words("LAST: who could tell no more (nobody at first): all is at its END then.");
        LastAtPump x = Due.street(0, 0, 0, 19, 1);
        Due.is("nobody", x.told(3), -5);
        Due.is("not at its end", x.ends(), 1);
        x.step();
        Due.is("0", x.told(3), 0);
        Due.is("at its end", x.ends(), 0);
        Due.is("none goes", x.step(), STATE);
        x.with(1);
        x.step();
        x.step();
        Due.is("1", x.told(3), 1);
        Due.is("none goes then", x.step(), STATE);
    }

    private static void nobodyIsLastByWith() {
        Due.words("Whenever it is made that THE BUCKET is WITH one of them (by with(), ..) nobody is LAST any more");
        LastAtPump x = ended(1);
        Due.is("the same one", x.with(0), 0);
        Due.is("nobody", x.told(3), -5);
        Due.is("last again", x.step(), 2);
        Due.is("another one", x.with(1), 0);
        Due.is("nobody then", x.told(3), -5);
        Due.is("a step goes", x.step(), 1);
    }

    private static void nobodyIsLastByAGame() {
        Due.words("Whenever .. (.. by a GAME, ..) nobody is LAST any more");
        LastAtPump x = ended(1);
        Due.is("ahead of it", x.gone(2), 0);
        x.game(2, 0);
        Due.is("with 0", x.gone(2), -5);
        x.game(0, 0);
        Due.is("a step goes: 0 is last again", x.gone(2), 0);
        x.game(2, 1);
        Due.is("with 1", x.gone(2), -5);
        Due.is("0 is last still", x.told(3), 0);
    }

    private static void nobodyIsLastByShouldBe() {
        Due.words("Whenever .. (.. by \"should be WITH\" ..) nobody is LAST any more");
        LastAtPump x = ended(1);
        Due.is("1 has one to tell", x.longest(), 1);
        x.set(0, 1, 1);
        Due.is("so has 0, the first", x.longest(), 0);
        Due.is("0 is last still", x.told(3), 0);
    }

    private static void nobodyIsLastByWhoever() {
        Due.words("Whenever .. (.. by \"whoever it is WITH\" ..) nobody is LAST any more");
        LastAtPump x = ended(1);
        Due.is("1 would tell", x.mute(1), 1);
        Due.is("0 is last still", x.told(3), 0);
    }

    private static void nobodyIsLastByCanBe() {
        Due.words("Whenever .. (.. by \"can be WITH\" ..) nobody is LAST any more");
        LastAtPump x = ended(1);
        x.set(0, 0, 18);
        x.see(1, 1);
        Due.is("0 would carry it to 1", x.from(), 1);
        Due.is("0 is last still", x.told(3), 0);
    }

    private static void nobodyIsLastByIfItIs() {
        Due.words("Whenever .. (.. by \"if it is WITH\" in what is asked), nobody is LAST any more.");
        LastAtPump x = ended(1);
        Due.is("nobody now", x.odds(0, 0), 0);
        Due.is("0 behind one", x.odds(1, 0), 1);
        Due.is("one of two", x.odds(1, 1), 2);
        Due.is("0 is last still", x.told(3), 0);
    }

    private static void lastStaysElse() {
        Due.words("LAST: what makes not that THE BUCKET is WITH one leaves who is");
        LastAtPump x = ended(9);
        x.set(0, 1, 9);
        x.set(0, 0, 18);
        x.weight(0);
        x.person(0, 0, 18, 9);
        Due.evening(x, "far 99");
        Due.is("told", x.told(3), 0);
        Due.is("none goes", x.step(), STATE);
        Due.is("on", x.on(9, 2), 0);
        Due.is("ends", x.ends(), 0);
        Due.is("stand", x.stand(0, 60, 1), 0);
        Due.is("stand: the least door", x.stand(0, 60, 0), 0);
        Due.is("needs", x.needs(0, 60), -5);
        Due.is("change", x.change(), -5);
        x.see(0, 60);
        Due.is("had", x.had(0, 0), 10);
        Due.is("gone", x.gone(2), 0);
    }

    private static void ofWhom() {
        Due.words("Promise 3: -1001: NONE (of a PERSON)");
        LastAtPump x = people(6);
        Due.is("0", x.of(0, 2), 0);
        Due.is("5", x.of(5, 2), 5);
        for (int p : Due.outside(0, 5)) {
            for (int what = 0; what <= 7; what++) {
                Due.is("of " + p, x.of(p, what), -1001);
            }
        }
        Due.is("of 1 of one", people(1).of(1, 0), -1001);
    }

    private static void ofWhat() {
        Due.words("Promise 3: what 0 KIND .. 7 RAIN. -1001: NONE (what)");
        LastAtPump x = people(2);
        Due.is("0", x.of(1, 0), 0);
        Due.is("7", x.of(1, 7), 0);
        for (int what : Due.outside(0, 7)) {
            Due.is("what " + what, x.of(1, what), -1001);
            Due.is("what " + what + " of nobody", x.of(2, what), -1001);
        }
    }

    private static void ofNobodyElse() {
        Due.words("Promise 3: 6 TO whom it would carry it (-5: there is nobody else)");
        for (int kind = 0; kind <= 6; kind++) {
            LastAtPump x = new LastAtPump();
            x.person(kind, 9, 9, 9);
            Due.is("alone, kind " + kind, x.of(0, 6), -5);
            x.person(0, 0, 9, 0);
            Due.is("not alone, kind " + kind, x.of(0, 6), 1);
        }
    }

    private static void setDoor() {
        Due.words("Promise 4: 0 DOOR becomes n: what it was. BAD");
        LastAtPump x = people(2);
        Due.is("19", x.set(1, 0, 19), 1);
        Due.is("0", x.set(1, 0, 0), 19);
        Due.is("of the other", x.of(0, 2), 0);
        for (int n : Due.outside(0, 19)) {
            Due.is("door " + n, x.set(1, 0, n), BAD);
            Due.is("it stays", x.of(1, 2), 0);
        }
    }

    private static void setHopes() {
        Due.words("Promise 4: 1 HOPES becomes n: what it was. BAD");
        LastAtPump x = people(2);
        Due.is("9", x.set(1, 1, 9), 1);
        Due.is("0", x.set(1, 1, 0), 9);
        Due.is("4", x.set(1, 1, 4), 0);
        for (int n : Due.outside(0, 9)) {
            Due.is("hopes " + n, x.set(1, 1, n), BAD);
            Due.is("they stay", x.of(1, 3), 4);
        }
        Due.is("19 is a door alone", x.set(1, 1, 19), BAD);
    }

    private static void setNone() {
        Due.words("Promise 4: NONE");
        LastAtPump x = people(6);
        Due.is("5", x.set(5, 0, 5), 5);
        for (int p : Due.outside(0, 5)) {
            Due.is("person " + p, x.set(p, 0, 3), NONE);
            Due.is("person " + p + ", bad", x.set(p, 1, 10), NONE);
        }
        for (int what : Due.outside(0, 1)) {
            Due.is("what " + what, x.set(0, what, 3), NONE);
            Due.is("what " + what + ", bad", x.set(0, what, 20), NONE);
        }
        Due.is("person 1 of one", people(1).set(1, 0, 3), NONE);
        Due.all("all stays", new long[] {x.of(0, 1), x.of(0, 2), x.of(0, 3), x.of(5, 2), x.of(5, 3)}, 0, 0, 0, 5, 5);
    }

    private static void rowsAtFirst() {
        Due.words("its ROW (four numbers 0 .. 9; 0 at first)");
        LastAtPump x = new LastAtPump();
        x.person(6, 0, 0, 0);
        x.person(6, 0, 0, 0);
        for (int part = 0; part <= 3; part++) {
            Due.is("part " + part, x.row(0, part, 9), 0);
            Due.is("of the other one", x.row(1, part, 0), 0);
        }
    }

    private static void rowTakes() {
        Due.words("Promise 5: The ROW of a TOLD one becomes n (0 .. 9) for STEPS modulo 4 being part: what it was.");
        LastAtPump x = new LastAtPump();
        for (int p = 0; p <= 5; p++) {
            x.person(6, 0, 0, 0);
        }
        for (int p = 0; p <= 5; p++) {
            for (int part = 0; part <= 3; part++) {
                Due.is("first", x.row(p, part, p + part), 0);
            }
        }
        for (int p = 0; p <= 5; p++) {
            for (int part = 0; part <= 3; part++) {
                Due.is("what it was", x.row(p, part, 9), p + part);
                Due.is("9", x.row(p, part, 0), 9);
                Due.is("0", x.row(p, part, 0), 0);
            }
        }
    }

    private static void rowRefuses() {
        Due.words("Promise 5: NONE: person, part; BAD");
        LastAtPump x = new LastAtPump();
        x.person(6, 0, 0, 0);
        for (int part = 0; part <= 3; part++) {
            x.row(0, part, 5);
        }
        for (int p : Due.outside(0, 0)) {
            Due.is("person " + p, x.row(p, 0, 1), NONE);
            Due.is("person " + p + ", bad", x.row(p, 4, 10), NONE);
        }
        for (int part : Due.outside(0, 3)) {
            Due.is("part " + part, x.row(0, part, 1), NONE);
            Due.is("part " + part + ", bad", x.row(0, part, -1), NONE);
        }
        for (int n : Due.outside(0, 9)) {
            Due.is("n " + n, x.row(0, 3, n), BAD);
        }
        for (int part = 0; part <= 3; part++) {
            Due.is("it stays", x.row(0, part, 5), 5);
        }
    }

    private static void rowOfAnotherKind() {
        Due.words("Promise 5: STATE: another KIND");
        for (int kind = 0; kind <= 5; kind++) {
            LastAtPump x = new LastAtPump();
            x.person(kind, 3, 0, 0);
            Due.is("kind " + kind, x.row(0, 0, 9), STATE);
            Due.is("kind " + kind + ", part 3", x.row(0, 3, 0), STATE);
            Due.is("kind " + kind + ", bad", x.row(0, 3, 10), BAD);
            Due.is("kind " + kind + ", no part", x.row(0, 4, 10), NONE);
        }
    }

    private static void withWhom() {
        Due.words("Promise 6: WITH whom it was. NONE.");
        LastAtPump x = people(6);
        Due.is("5", x.with(5), 0);
        Due.is("5 again", x.with(5), 5);
        Due.is("0", x.with(0), 5);
        Due.is("3", x.with(3), 0);
        for (int p : Due.outside(0, 5)) {
            Due.is("person " + p, x.with(p), NONE);
            Due.is("it stays", x.told(1), 3);
        }
        LastAtPump ended = ended(1);
        Due.is("nobody of that number", ended.with(2), NONE);
        Due.is("0 is last still", ended.told(3), 0);
    }
}
