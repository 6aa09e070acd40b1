/** Promises 8 to 10: feed, evening, told; and RAIN, FAR, COST as an EVENING tells them. */
public final class EveningTest {
    public static void main(String[] args) {
        feed();
        faultsOfWords();
        faultsOfNumbers();
        faultsOfTests();
        faultsOfClauses();
        faultsOfDepth();
        noFault();
        evening();
        lastOnesCount();
        rainOfTests();
        rainOfExpressions();
        told();
        Due.end();
    }

    private static void feed() {
        LastAtPump x = new LastAtPump();
        Due.is("128", x.feed(128), LastAtPump.BAD);
        Due.is("-1", x.feed(-1), LastAtPump.BAD);
        Due.is("0", x.feed(0), 1);
        Due.is("127", x.feed(127), 2);
        for (int n = 3; n <= 100; n++) {
            Due.is("feed " + n, x.feed('a'), n);
        }
        Due.is("bytes", x.count(5), 100);
        Due.is("full", x.feed('a'), LastAtPump.FULL);
        Due.is("128 ahead of full", x.feed(128), LastAtPump.BAD);
        Due.is("bytes still", x.count(5), 100);
        Due.is("its fault", x.evening(), -10);
        Due.is("no bytes", x.count(5), 0);
        Due.is("feed", x.feed('f'), 1);
    }

    private static void faultsOfWords() {
        Due.fault("", 0);
        Due.fault("x", 0);
        Due.fault(" far 1", 0);
        Due.fault("r", 1);
        Due.fault("ruin 1 p=1", 1);
        Due.fault("raid 1 p=1", 3);
        Due.fault("rainy 1 p=1", 4);
        Due.fault("day 1 p=1", 1);
        Due.fault("fat 1", 2);
        Due.fault("cast 1", 1);
        Due.fault("Far 1", 0);
        Due.fault("far", 3);
        Due.fault("far1", 3);
    }

    private static void faultsOfNumbers() {
        Due.fault("far ", 4);
        Due.fault("far  1", 4);
        Due.fault("far x", 4);
        Due.fault("far -1", 4);
        Due.fault("far 123", 6);
        Due.fault("far 1 ", 5);
        Due.fault("cost 12 ", 7);
        Due.fault("rain 123 p=1", 7);
        Due.fault("rain 1", 6);
        Due.fault("rain 1;far 1", 6);
        Due.fault("rain 1  p=1", 7);
        Due.fault("dry 9 ", 6);
        Due.fault("far :", 4);
        Due.fault("far /", 4);
    }

    private static void faultsOfTests() {
        Due.fault("dry 1 q=1", 6);
        Due.fault("dry 1 p", 7);
        Due.fault("dry 1 p1", 7);
        Due.fault("dry 1 p==1", 8);
        Due.fault("dry 1 p=", 8);
        Due.fault("dry 1 p=x", 8);
        Due.fault("dry 1 p=123", 10);
        Due.fault("dry 1 p=1 ", 9);
        Due.fault("dry 1 p=1&", 10);
        Due.fault("dry 1 p=1|", 10);
        Due.fault("dry 1 p=1&&k=1", 10);
        Due.fault("dry 1 p=1!k=1", 9);
        Due.fault("dry 1 p=1)", 9);
        Due.fault("dry 1 ()", 7);
        Due.fault("dry 1 (p=1", 10);
        Due.fault("dry 1 (p=1;far 1", 10);
        Due.fault("dry 1 !", 7);
        Due.fault("dry 1 (p=1)k=1", 11);
        Due.fault("dry 1 p=1k=1", 9);
        Due.fault("dry 1 1=p", 6);
        Due.fault("dry 1 p\u00001", 7);
    }

    private static void faultsOfClauses() {
        Due.fault(";far 1", 0);
        Due.fault("far 1;", 6);
        Due.fault("far 1;;far 1", 6);
        Due.fault("far 1; far 1", 6);
        Due.fault("far 1,far 1", 5);
        String ten = "far 1;far 1;far 1;far 1;far 1;far 1;far 1;far 1;far 1;far 12";
        Due.is("ten", Due.evening(new LastAtPump(), ten), 0);
        Due.fault(ten + ";", 60);
        Due.fault(ten + ";far 1", 60);
        Due.fault(ten + "x", 60);
    }

    private static void faultsOfDepth() {
        Due.is("4 (", Due.evening(new LastAtPump(), "dry 1 ((((p=1))))"), 0);
        Due.fault("dry 1 (((((p=1)))))", 10);
        Due.is("4 !", Due.evening(new LastAtPump(), "dry 1 !!!!p=1"), 0);
        Due.fault("dry 1 !!!!!p=1", 10);
        Due.is("both", Due.evening(new LastAtPump(), "dry 1 !(!(p=1))"), 0);
        Due.fault("dry 1 !(!((p=1)))", 10);
        Due.fault("dry 1 (!(!!p=1))", 10);
        Due.is("one behind another", Due.evening(new LastAtPump(), "dry 1 ((((p=1))))&((((p=1))))|!!!!p=1"), 0);
        Due.is("one behind another within",
                Due.evening(new LastAtPump(), "dry 1 (((!p=1|!k=1)&!h=1)|!(!p=2))"), 0);
        Due.fault("dry 1 ((((p=1)))))", 17);
        Due.fault("dry 1 (((((", 10);
        Due.fault("dry 1 ((((", 10);
    }

    private static void noFault() {
        Due.is("shortest", Due.evening(new LastAtPump(), "far 0"), 0);
        String tests = "rain 1 p=1&p=1&p=1&p=1&p=1&p=1&p=1&p=1&p=1&p=1&p=1&p=1&p=1&p=1&p=1&p=1"
                + "|p<1|p<1|p<1|p<1|p<1|p<22";
        Due.is("a hundred bytes at most", tests.length() <= 100 ? 1 : 0, 1);
        Due.is("many", Due.evening(new LastAtPump(), tests), 0);
        String full = "far 12;cost 12;rain 12 p=12&k=12&d=12&h=12&w=12&s=12|p<12|k<12|d<12;dry 12 !(p>12|k>12)&d<11|k=1|s=1";
        Due.is("a hundred bytes", full.length(), 100);
        Due.is("full", Due.evening(new LastAtPump(), full), 0);
    }

    private static void evening() {
        LastAtPump x = new LastAtPump();
        Due.is("first", Due.evening(x, "far 9"), 0);
        Due.is("no text then", x.count(5), 0);
        Due.is("a fault", Due.evening(x, "far 8;cost"), -20);
        Due.is("no text then either", x.count(5), 0);
        Due.is("the one that held holds", x.told(4), 9);
        Due.is("none came", x.count(1), 1);
        for (int k = 1; k < 6; k++) {
            Due.is("evening " + k, Due.evening(x, "far 1" + k), k);
            Due.is("it holds", x.told(4), 10 + k);
        }
        Due.is("six", x.count(1), 6);
        Due.is("full", Due.evening(x, "far 3"), LastAtPump.FULL);
        Due.is("the text stays", x.count(5), 5);
        Due.is("it holds still", x.told(4), 15);
        Due.is("full by a fault", x.feed(';'), 6);
        Due.is("full again", x.evening(), LastAtPump.FULL);
        Due.is("the text stays again", x.count(5), 6);
    }

    private static void lastOnesCount() {
        LastAtPump x = new LastAtPump();
        Due.is("twice", Due.evening(x, "far 3;cost 99;far 07;rain 1 p=0;cost 8"), 0);
        Due.is("far", x.told(4), 7);
        Due.is("cost", x.told(5), 8);
        Due.is("none", Due.evening(x, "rain 1 p=0"), 1);
        Due.is("far 12", x.told(4), 12);
        Due.is("cost 5", x.told(5), 5);
        Due.is("0", Due.evening(x, "far 0;cost 00"), 2);
        Due.is("far 0", x.told(4), 0);
        Due.is("cost 0", x.told(5), 0);
    }

    /** RAIN of the PERSON 1 of a street, kind 2, door 13, hopes 4, at STEP 11, WEIGHT 257. */
    private static int rain(String text) {
        LastAtPump x = new LastAtPump();
        x.person(0, 0, 5, 0);
        x.person(2, 0, 13, 4);
        x.person(0, 0, 5, 0);
        for (int step = 0; step < 11; step++) {
            x.step();
        }
        x.weight(257);
        Due.is(text, Due.evening(x, text), 0);
        return x.of(1, 7);
    }

    private static void rainOfTests() {
        Due.is("p", rain("rain 1 p=1;rain 2 p<1;rain 4 p>1;rain 8 p<2;rain 16 p>0"), 25);
        Due.is("k", rain("rain 1 k=2;rain 2 k<2;rain 4 k>2;rain 8 k<3;rain 16 k>1"), 25);
        Due.is("d", rain("rain 1 d=13;rain 2 d<13;rain 4 d>13;rain 8 d<14;rain 16 d>12"), 25);
        Due.is("h", rain("rain 1 h=4;rain 2 h<4;rain 4 h>4;rain 8 h<5;rain 16 h>3"), 25);
        Due.is("w", rain("rain 1 w=25;rain 2 w<25;rain 4 w>25;rain 8 w<26;rain 16 w>24"), 25);
        Due.is("s", rain("rain 1 s=1;rain 2 s<1;rain 4 s>1;rain 8 s<2;rain 16 s>0"), 25);
        Due.is("number 99", rain("rain 99 d<99"), 99);
        Due.is("number 04", rain("rain 07 h=04"), 7);
    }

    private static void rainOfExpressions() {
        Due.is("rain, dry", rain("rain 9 p=1;dry 20 p=1;rain 3 p=2;dry 50 p=2"), -11);
        Due.is("not", rain("rain 1 !p=1;rain 2 !p=2;rain 4 !!p=1;rain 8 !!p=2"), 6);
        Due.is("and", rain("rain 1 p=1&k=2;rain 2 p=1&k=1;rain 4 p=2&k=2;rain 8 p=2&k=1"), 1);
        Due.is("or", rain("rain 1 p=1|k=2;rain 2 p=1|k=1;rain 4 p=2|k=2;rain 8 p=2|k=1"), 7);
        Due.is("& binds more", rain("rain 1 p=1|p=2&p=2;rain 2 p=2&p=2|p=1;rain 4 (p=1|p=2)&p=2"), 3);
        Due.is("three", rain("rain 1 p=1&p=1&p=2;rain 2 p=2|p=2|p=1;rain 4 p=2&p=1&p=1;rain 8 p=1|p=2|p=2"), 10);
        Due.is("! binds most", rain("rain 1 !p=2&p=2;rain 2 !(p=2&p=2);rain 4 !p=1|p=1;rain 8 !(p=1|p=2)"), 6);
        Due.is("deep", rain("rain 1 ((((p=1))));rain 2 !(!(p=1&k=2))"), 3);
    }

    private static void told() {
        LastAtPump x = Due.street(0, 0, 1, 19, 0);
        x.weight(50);
        Due.all("told", new long[] {x.told(0), x.told(1), x.told(2), x.told(3), x.told(4), x.told(5)},
                0, 0, 50, -5, 12, 5);
        x.step();
        Due.all("told then", new long[] {x.told(0), x.told(1), x.told(2), x.told(3)}, 1, 0, 55, -5);
        x.step();
        Due.all("told at the end", new long[] {x.told(0), x.told(1), x.told(2), x.told(3)}, 2, 0, 55, 0);
        Due.is("6", x.told(6), LastAtPump.NONE);
        Due.is("-1", x.told(-1), LastAtPump.NONE);
    }
}
