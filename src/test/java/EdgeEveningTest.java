import java.util.List;

/** The edges that the document names of EVENINGS (terms 1, the first indented text; promises 8 to 10). */
public final class EdgeEveningTest {
    private static final int NONE = LastAtPump.NONE, BAD = LastAtPump.BAD, FULL = LastAtPump.FULL;
    private static final String TEN = "far 1;far 2;far 3;far 4;far 5;far 6;far 7;far 8;far 9;far 10";
    // A hundred bytes.
    private static final String LONGEST = "far 12;cost 12;rain 12 p=12&k=12&d=12&h=12&w=12&s=12|p<12|k<12|d<12;"
            + "dry 12 !(p>12|k>12)&d<11|k=1|s=1";

    public static void main(String[] args) {
        signs();
        textIsFull();
        textIsEmpty();
        clauseAtLeast();
        clausesAtMost();
        semicolonsBetween();
        blanks();
        digits();
        words();
        manyTermsAndFactors();
        expressionsThatEndTooEarly();
        whatHolds();
        testsLetters();
        testsRelations();
        testsNumbers();
        fourOthers();
        firstByteWithWhichNoneBegins();
        endOfTheText();
        newestHolds();
        noneHolds();
        sixEvenings();
        textStays();
        rainOfPeople();
        rainOfKinds();
        rainOfDoors();
        rainOfHopes();
        rainOfWeight();
        rainOfSteps();
        rainTogether();
        rainBelowNothing();
        farWithout();
        costWithout();
        lastOnesFar();
        lastOnesCost();
        toldWhat();
        Due.end();
    }

    private static void stands(String text) {
        Due.is("'" + text + "'", Due.evening(new LastAtPump(), text), 0);
    }

    private static void signs() {
        Due.words("Promise 8: A sign (0 .. 127) .. BAD");
        LastAtPump x = new LastAtPump();
        Due.is("0", x.feed(0), 1);
        Due.is("127", x.feed(127), 2);
        for (int sign : Due.outside(0, 127)) {
            Due.is("sign " + sign, x.feed(sign), BAD);
        }
        Due.is("'f' and 256", x.feed('f' + 256), BAD);
        Due.is("two", x.count(5), 2);
    }

    private static void textIsFull() {
        Due.words("THE TEXT (bytes, 100 at most); Promise 8: how many it has. BAD; FULL.");
        LastAtPump x = new LastAtPump();
        for (int n = 1; n <= 100; n++) {
            Due.is("a sign", x.feed('f'), n);
        }
        Due.is("one more", x.feed('f'), FULL);
        Due.is("0", x.feed(0), FULL);
        Due.is("a wrong one", x.feed(128), BAD);
        Due.is("a hundred", x.count(5), 100);
        LastAtPump y = new LastAtPump();
        Due.feed(y, LONGEST);
        Due.is("one more", y.feed(';'), FULL);
        Due.is("it is as it was", y.evening(), 0);
    }

    private static void textIsEmpty() {
        Due.words("Promise 9: THE TEXT, which is empty then");
        LastAtPump x = new LastAtPump();
        Due.is("an evening", Due.evening(x, "far 4"), 0);
        Due.is("no bytes", x.count(5), 0);
        Due.is("a fault", Due.evening(x, "fax"), -12);
        Due.is("no bytes again", x.count(5), 0);
        Due.is("the fault of nothing", x.evening(), -10);
        Due.is("the first again", x.feed('f'), 1);
    }

    private static void clauseAtLeast() {
        Due.words("CLAUSES, 1 to 10 (1 at least)");
        Due.fault("", 0);
        Due.fault(";", 0);
        stands("far 1");
        stands("cost 1");
        stands("rain 1 p=1");
        stands("dry 1 p=1");
    }

    private static void clausesAtMost() {
        Due.words("CLAUSES, 1 to 10 (10 at most)");
        stands(TEN.substring(0, TEN.length() - 7));
        stands(TEN);
        Due.fault(TEN + ";", TEN.length());
        Due.fault(TEN + ";far 1", TEN.length());
        Due.fault(TEN + ";far 1;far 1", TEN.length());
        LastAtPump x = new LastAtPump();
        Due.evening(x, TEN);
        Due.is("the tenth is of it", x.told(4), 10);
    }

    private static void semicolonsBetween() {
        Due.words("CLAUSES .. with ; between");
        stands("far 1;cost 1");
        Due.fault(";far 1", 0);
        Due.fault("far 1;", 6);
        Due.fault("far 1;;cost 1", 6);
        Due.fault("far 1 cost 1", 5);
        Due.fault("far 1,cost 1", 5);
        Due.fault("far 1; cost 1", 6);
        Due.fault("far 1 ;cost 1", 5);
        Due.fault("rain 1 p=1;;far 1", 11);
    }

    private static void blanks() {
        Due.words("one blank ahead of each part behind the word");
        Due.fault("far1", 3);
        Due.fault("far  1", 4);
        Due.fault("far\t1", 3);
        Due.fault("cost1", 4);
        Due.fault("cost  1", 5);
        Due.fault("rain1 p=1", 4);
        Due.fault("rain  1 p=1", 5);
        Due.fault("rain 1p=1", 6);
        Due.fault("rain 1  p=1", 7);
        Due.fault("rain 12p=1", 7);
        Due.fault("rain 12  p=1", 8);
        Due.fault("dry1 p=1", 3);
        Due.fault("dry  1 p=1", 4);
        Due.fault("dry 1p=1", 5);
        Due.fault("dry 1  p=1", 6);
        Due.fault("dry 1 p =1", 7);
        Due.fault("dry 1 p= 1", 8);
        Due.fault("dry 1 p=1 &k=1", 9);
        Due.fault("dry 1 p=1& k=1", 10);
        Due.fault("dry 1 ! p=1", 7);
        Due.fault("dry 1 ( p=1)", 7);
        Due.fault("dry 1 (p=1 )", 10);
        Due.fault("dry 1 p=1 ", 9);
        Due.fault(" far 1", 0);
        Due.fault("far 1 ", 5);
    }

    private static void digits() {
        Due.words("n 1 or 2 digits");
        for (String word : new String[] {"far ", "cost "}) {
            int at = word.length();
            Due.fault(word, at);
            Due.fault(word + ";", at);
            stands(word + "0");
            stands(word + "00");
            stands(word + "9");
            stands(word + "99");
            Due.fault(word + "000", at + 2);
            Due.fault(word + "100", at + 2);
            Due.fault(word + "-1", at);
            Due.fault(word + "+1", at);
            Due.fault(word + "/", at);
            Due.fault(word + ":", at);
            Due.fault(word + "1/", at + 1);
            Due.fault(word + "1:", at + 1);
        }
        for (String word : new String[] {"rain ", "dry "}) {
            int at = word.length();
            Due.fault(word, at);
            Due.fault(word + " p=1", at);
            Due.fault(word + "p=1", at);
            stands(word + "0 p=1");
            stands(word + "00 p=1");
            stands(word + "9 p=1");
            stands(word + "99 p=1");
            Due.fault(word + "100 p=1", at + 2);
            Due.fault(word + "/ p=1", at);
            Due.fault(word + ": p=1", at);
        }
    }

    private static void words() {
        Due.words("rain n E; dry n E; far n; cost n");
        Due.fault("rain 1", 6);
        Due.fault("rain 1 ", 7);
        Due.fault("dry 1", 5);
        Due.fault("dry 1 ", 6);
        Due.fault("far 1 p=1", 5);
        Due.fault("cost 1 p=1", 6);
        Due.fault("rains 1 p=1", 4);
        Due.fault("RAIN 1 p=1", 0);
        Due.fault("fry 1", 1);
        Due.fault("coat 1", 2);
        Due.fault("dr 1 p=1", 2);
        Due.fault("q", 0);
        Due.fault("e 1", 0);
        Due.fault("s=1", 0);
    }

    private static void manyTermsAndFactors() {
        Due.words("E: T or T|E. T: F or F&T. (as many as THE TEXT has room for)");
        StringBuilder ands = new StringBuilder("dry 1 p=0");
        StringBuilder ors = new StringBuilder("dry 1 p=1");
        for (int k = 0; k < 22; k++) {
            ands.append("&p=0");
            ors.append("|p=").append(k == 21 ? "0" : "1");
        }
        LastAtPump x = new LastAtPump();
        x.person(0, 0, 0, 0);
        Due.is("ands", Due.evening(x, ands.toString()), 0);
        Due.is("all of them hold", x.of(0, 7), -1);
        Due.is("ors", Due.evening(x, ors.toString()), 1);
        Due.is("the last one holds", x.of(0, 7), -1);
        Due.is("one fails", Due.evening(x, ands.toString().substring(0, ands.length() - 1) + "1"), 2);
        Due.is("not all of them hold", x.of(0, 7), 0);
        Due.is("none holds", Due.evening(x, ors.toString().substring(0, ors.length() - 1) + "1"), 3);
        Due.is("none of them holds", x.of(0, 7), 0);
    }

    private static void expressionsThatEndTooEarly() {
        Due.words("E: T or T|E. T: F or F&T. F: !F, (E), or a TEST (none of it may lack)");
        Due.fault("dry 1 p=1|", 10);
        Due.fault("dry 1 p=1&", 10);
        Due.fault("dry 1 |p=1", 6);
        Due.fault("dry 1 &p=1", 6);
        Due.fault("dry 1 p=1||p=1", 10);
        Due.fault("dry 1 p=1&|p=1", 10);
        Due.fault("dry 1 p=1|&p=1", 10);
        Due.fault("dry 1 !", 7);
        Due.fault("dry 1 !&p=1", 7);
        Due.fault("dry 1 (", 7);
        Due.fault("dry 1 ()", 7);
        Due.fault("dry 1 (p=1", 10);
        Due.fault("dry 1 (p=1|)", 11);
        Due.fault("dry 1 p=1)", 9);
        Due.fault("dry 1 (p=1))", 11);
        Due.fault("dry 1 p=1(p=1)", 9);
        Due.fault("dry 1 p=1!p=1", 9);
        Due.fault("dry 1 (p=1)!p=1", 11);
        Due.fault("dry 1 (p=1;far 1", 10);
    }

    /** Whether an E holds of a PERSON whose number is 0, KIND 3, DOOR 7. */
    private static int holds(String expression) {
        LastAtPump x = new LastAtPump();
        x.person(3, 0, 7, 0);
        Due.evening(x, "rain 1 " + expression);
        return x.of(0, 7);
    }

    private static void whatHolds() {
        Due.words("E: T or T|E. T: F or F&T. F: !F, (E), or a TEST (what holds)");
        String[] tests = {"k=3", "k<4", "k>2", "k=4", "k<3", "k>3"};
        for (int one = 0; one <= 5; one++) {
            int first = one <= 2 ? 1 : 0;
            Due.is(tests[one], holds(tests[one]), first);
            Due.is("!" + tests[one], holds("!" + tests[one]), 1 - first);
            Due.is("!!!" + tests[one], holds("!!!" + tests[one]), 1 - first);
            Due.is("!(!" + tests[one] + ")", holds("!(!" + tests[one] + ")"), first);
            for (int two = 0; two <= 5; two++) {
                int second = two <= 2 ? 1 : 0;
                String or = tests[one] + "|" + tests[two];
                String and = tests[one] + "&" + tests[two];
                Due.is(or, holds(or), first | second);
                Due.is(and, holds(and), first & second);
                Due.is("!(" + or + ")", holds("!(" + or + ")"), 1 - (first | second));
                Due.is("!(" + and + ")", holds("!(" + and + ")"), 1 - (first & second));
                Due.is("!" + or, holds("!" + or), 1 - first | second);
                Due.is("!" + and, holds("!" + and), 1 - first & second);
                Due.is(or + "&d>7", holds(or + "&d>7"), first);
                Due.is(and + "|d>7", holds(and + "|d>7"), first & second);
                Due.is("d=7|" + and, holds("d=7|" + and), 1);
                Due.is("d=7&" + or, holds("d=7&" + or), first | second);
                Due.is("d=6&" + or, holds("d=6&" + or), second);
                Due.is("d=6&(" + or + ")", holds("d=6&(" + or + ")"), 0);
                Due.is("d=7&(" + or + ")", holds("d=7&(" + or + ")"), first | second);
                Due.is("d=7&(" + and + ")", holds("d=7&(" + and + ")"), first & second);
                Due.is("d=6|(" + and + ")", holds("d=6|(" + and + ")"), first & second);
                Due.is("(" + or + ")&d>6", holds("(" + or + ")&d>6"), first | second);
            }
        }
    }

    private static void testsLetters() {
        Due.words("a TEST: a letter (p, k, d, h, w, s)");
        for (char letter : "pkdhws".toCharArray()) {
            stands("dry 1 " + letter + "=1");
            Due.fault("dry 1 " + letter, 7);
            Due.fault("dry 1 " + Character.toUpperCase(letter) + "=1", 6);
        }
        for (int sign = 0; sign <= 127; sign++) {
            if ("pkdhws(!".indexOf(sign) < 0) {
                Due.fault("dry 1 " + (char) sign + "=1", 6);
            }
        }
    }

    private static void testsRelations() {
        Due.words("a TEST: .. < or = or >");
        for (int sign = 0; sign <= 127; sign++) {
            if ("<=>".indexOf(sign) < 0) {
                Due.fault("dry 1 p" + (char) sign + "1", 7);
            } else {
                stands("dry 1 p" + (char) sign + "1");
            }
        }
        Due.fault("dry 1 p<=1", 8);
        Due.fault("dry 1 p>=1", 8);
        Due.fault("dry 1 p<>1", 8);
    }

    private static void testsNumbers() {
        Due.words("a TEST: .. a number (1 or 2 digits)");
        stands("dry 1 p=0");
        stands("dry 1 p=99");
        stands("dry 1 p=00");
        Due.fault("dry 1 p=", 8);
        Due.fault("dry 1 p=x", 8);
        Due.fault("dry 1 p=/", 8);
        Due.fault("dry 1 p=:", 8);
        Due.fault("dry 1 p=1/", 9);
        Due.fault("dry 1 p=1:", 9);
        Due.fault("dry 1 p=-1", 8);
        Due.fault("dry 1 p=000", 10);
        Due.fault("dry 1 p=100", 10);
        Due.fault("dry 1 (p=100)", 11);
    }

    private static void fourOthers() {
        Due.words("A ( or ! within 4 others is none.");
        // All ways to have four of them, one within the other, and one more in that.
        for (int ways = 0; ways < 16; ways++) {
            StringBuilder ahead = new StringBuilder("dry 1 ");
            StringBuilder behind = new StringBuilder();
            for (int k = 0; k < 4; k++) {
                boolean isOpen = (ways >> k & 1) == 0;
                ahead.append(isOpen ? '(' : '!');
                behind.append(isOpen ? ")" : "");
            }
            stands(ahead + "p=1" + behind);
            Due.fault(ahead + "(p=1)" + behind, 10);
            Due.fault(ahead + "!p=1" + behind, 10);
            stands(ahead + "p=1" + behind + "|" + ahead.substring(6) + "p=1" + behind);
        }
        stands("dry 1 (((!p=1&!p=2|!p=3)&(p=4)))");
        Due.fault("dry 1 (((!p=1&(!p=2))))", 15);
        Due.fault("dry 1 (((p=1&(p=2&!p=3))))", 18);
    }

    private static void firstByteWithWhichNoneBegins() {
        Due.words("The FAULT: the place of the first byte with which none begins so");
        for (String text : new String[] {LONGEST, TEN, "rain 4 s<5;dry 3 w>5;far 9;cost 7", "dry 99 !(!(k=0&d>12))"}) {
            stands(text);
            for (int at = 0; at < text.length(); at++) {
                Due.fault(text.substring(0, at) + "#" + text.substring(at + 1), at);
            }
        }
        Due.fault("far 1;#" + LONGEST.substring(10), 6);
    }

    private static void endOfTheText() {
        Due.words("The FAULT: .. (the end of THE TEXT, if it ends too early)");
        String text = "rain 4 !(s<5&k=1)|p=12;far 9;cost 7";
        // Where it may end: behind ), 1 or 2 digits, a clause.
        List<Integer> whole = List.of(17, 21, 22, 28, 35);
        for (int end = 0; end <= text.length(); end++) {
            if (whole.contains(end)) {
                stands(text.substring(0, end));
            } else {
                Due.fault(text.substring(0, end), end);
            }
        }
        // A hundred bytes that end too early.
        for (String last : new String[] {"&!k<", "|s>9", "|(((", ";far"}) {
            String hundred = LONGEST.substring(0, 96) + last;
            Due.is("bytes", hundred.length(), 100);
            Due.is("'" + hundred + "'", Due.evening(new LastAtPump(), hundred), last.equals("|s>9") ? 0 : -110);
        }
    }

    private static void newestHolds() {
        Due.words("The newest EVENING holds; Promise 9: its number");
        LastAtPump x = new LastAtPump();
        for (int n = 0; n <= 5; n++) {
            Due.is("evening " + n, Due.evening(x, "far 2" + n), n);
            Due.is("it holds", x.told(4), 20 + n);
            Due.is("so many", x.count(1), n + 1);
        }
        LastAtPump y = new LastAtPump();
        Due.evening(y, "far 20");
        Due.is("fault", Due.evening(y, "far 30;far"), -20);
        Due.is("Promise 9: the one that held holds", y.told(4), 20);
        Due.is("one", y.count(1), 1);
        Due.is("the second", Due.evening(y, "cost 30"), 1);
        Due.is("the older one's clauses are none of it", y.told(4), 12);
    }

    private static void noneHolds() {
        Due.words("without one there are no CLAUSES");
        LastAtPump x = new LastAtPump();
        x.person(0, 0, 0, 0);
        Due.all("no rain, far, cost", new long[] {x.of(0, 7), x.told(4), x.told(5)}, 0, 12, 5);
        Due.is("a fault", Due.evening(x, "far 3;"), -16);
        Due.all("by a fault none either", new long[] {x.of(0, 7), x.told(4), x.told(5)}, 0, 12, 5);
        x.image();
        Due.is("one", Due.evening(x, "far 3;rain 4 p=0"), 0);
        Due.all("by that one", new long[] {x.of(0, 7), x.told(4), x.told(5)}, 4, 3, 5);
        x.undo();
        Due.all("none holds again", new long[] {x.of(0, 7), x.told(4), x.told(5)}, 0, 12, 5);
    }

    private static LastAtPump six() {
        LastAtPump x = new LastAtPump();
        for (int n = 0; n <= 5; n++) {
            Due.is("evening " + n, Due.evening(x, "far " + n), n);
        }
        return x;
    }

    private static void sixEvenings() {
        Due.words("(6 at most); Promise 9: FULL: there are 6");
        LastAtPump x = six();
        Due.is("a seventh", Due.evening(x, "far 9"), FULL);
        Due.is("six", x.count(1), 6);
        Due.is("the sixth holds", x.told(4), 5);
        LastAtPump y = six();
        Due.is("a seventh of nothing", y.evening(), FULL);
        LastAtPump z = new LastAtPump();
        z.image();
        for (int n = 0; n <= 5; n++) {
            Due.evening(z, "far " + n);
        }
        z.undo();
        Due.is("undo takes none away", z.count(1), 6);
        Due.is("still none more", Due.evening(z, "far 9"), FULL);
        Due.is("none holds", z.told(4), 12);
    }

    private static void textStays() {
        Due.words("Promise 9: FULL: there are 6 (THE TEXT stays)");
        LastAtPump x = six();
        Due.is("a seventh", Due.evening(x, "far 9"), FULL);
        Due.is("five bytes", x.count(5), 5);
        Due.is("a sixth", x.feed('!'), 6);
        Due.is("a seventh, by a fault", x.evening(), FULL);
        Due.is("six bytes", x.count(5), 6);
    }

    /** RAIN of person p of a street of six of all KINDS at doors 0, 4, .. 16, 19, hopes 0, 1, 2, 3, 4, 9. */
    private static void rain(int p, int weight, int steps, String tests, int due) {
        LastAtPump x = new LastAtPump();
        int[] kinds = {0, 6, 1, 2, 3, 5};
        for (int k = 0; k <= 5; k++) {
            x.person(kinds[k], 9, k == 5 ? 19 : 4 * k, k == 5 ? 9 : k);
        }
        for (int k = 0; k < steps; k++) {
            x.set(1, 0, 0);
            x.with(0);
            Due.is("step", x.step(), 0);
        }
        x.weight(weight);
        StringBuilder text = new StringBuilder();
        int n = 1;
        for (String test : tests.split(" ")) {
            text.append(n == 1 ? "" : ";").append("rain ").append(n).append(' ').append(test);
            n *= 2;
        }
        Due.evening(x, text.toString());
        Due.is("rain of " + p + " by " + tests, x.of(p, 7), due);
    }

    private static void rainOfPeople() {
        Due.words("of a PERSON p its number");
        rain(0, 0, 0, "p=0 p<0 p>0 p<1 p=1", 9);
        rain(5, 0, 0, "p=5 p<5 p>5 p<6 p>4 p=05", 57);
    }

    private static void rainOfKinds() {
        Due.words("of a PERSON .. k its KIND");
        rain(0, 0, 0, "k=0 k<0 k>0 k<1", 9);
        rain(1, 0, 0, "k=6 k<6 k>6 k<7 k>5", 25);
    }

    private static void rainOfDoors() {
        Due.words("of a PERSON .. d its DOOR");
        rain(0, 0, 0, "d=0 d<0 d>0 d<1", 9);
        rain(5, 0, 0, "d=19 d<19 d>19 d<20 d>18 d=1 d=9", 25);
    }

    private static void rainOfHopes() {
        Due.words("of a PERSON .. h its HOPES");
        rain(0, 0, 0, "h=0 h<0 h>0 h<1", 9);
        rain(5, 0, 0, "h=9 h<9 h>9 h<10 h>8", 25);
    }

    private static void rainOfWeight() {
        Due.words("w WEIGHT by 10 (cut)");
        rain(0, 0, 0, "w=0 w<0 w>0 w<1", 9);
        rain(0, 9, 0, "w=0 w<0 w>0 w<1", 9);
        rain(0, 10, 0, "w=1 w=0 w<1 w>0", 9);
        rain(0, 989, 0, "w=98 w=99 w<98 w>97", 9);
        rain(0, 990, 0, "w=99 w=98 w<99 w>98", 9);
        rain(0, 999, 0, "w=99 w>99 w<99 w>98", 9);
    }

    private static void rainOfSteps() {
        Due.words("s STEP modulo 10");
        rain(0, 0, 0, "s=0 s<0 s>0 s<1", 9);
        rain(0, 0, 9, "s=9 s=0 s<9 s>8", 9);
        rain(0, 0, 10, "s=0 s=10 s>9 s<1", 9);
        rain(0, 0, 20, "s=0 s=20 s>0 s<1", 9);
        rain(0, 0, 29, "s=9 s=29 s>9 s>8", 9);
    }

    private static void rainTogether() {
        Due.words("RAIN of a PERSON: the n of all rain whose E holds, less those of all dry, together");
        LastAtPump x = Due.street(0, 0, 0, 1, 0);
        String text = "rain 99 p<9;rain 99 p<9;rain 99 p<9;rain 99 p<9;rain 99 p<9;rain 99 p<9;rain 99 p<9;rain 9 p=0";
        Due.is("most", Due.evening(x, text), 0);
        Due.all("rain", new long[] {x.of(0, 7), x.of(1, 7)}, 702, 693);
        Due.is("rain less dry", Due.evening(x, "rain 99 p=0;dry 99 p<9;rain 0 p=0;dry 00 p=0"), 1);
        Due.all("rain", new long[] {x.of(0, 7), x.of(1, 7)}, 0, -99);
        Due.is("none holds", Due.evening(x, "rain 99 p=2;dry 99 p=3"), 2);
        Due.all("rain", new long[] {x.of(0, 7), x.of(1, 7)}, 0, 0);
    }

    private static void rainBelowNothing() {
        Due.words("RAIN .. (may be below 0)");
        LastAtPump x = Due.street(0, 0, 0, 1, 0);
        Due.is("a little", Due.evening(x, "dry 1 p=0;rain 1 p=1"), 0);
        Due.all("rain", new long[] {x.of(0, 7), x.of(1, 7)}, -1, 1);
        String text = "dry 99 p<9;dry 99 p<9;dry 99 p<9;dry 99 p<9;dry 99 p<9;dry 99 p<9;dry 99 p<9;dry 99 p<9;dry 99 p=0";
        Due.is("much", Due.evening(x, text), 1);
        Due.all("rain", new long[] {x.of(0, 7), x.of(1, 7)}, -891, -792);
    }

    private static void farWithout() {
        Due.words("FAR (12 without)");
        LastAtPump x = new LastAtPump();
        Due.is("no evening", x.told(4), 12);
        Due.evening(x, "cost 1");
        Due.is("no far", x.told(4), 12);
        Due.evening(x, "rain 1 p=0");
        Due.is("no far, no cost", x.told(4), 12);
        Due.evening(x, "far 0");
        Due.is("far 0 is one", x.told(4), 0);
        Due.evening(x, "far 99");
        Due.is("99", x.told(4), 99);
    }

    private static void costWithout() {
        Due.words("COST (5 without)");
        LastAtPump x = new LastAtPump();
        Due.is("no evening", x.told(5), 5);
        Due.evening(x, "far 1");
        Due.is("no cost", x.told(5), 5);
        Due.evening(x, "rain 1 p=0");
        Due.is("no far, no cost", x.told(5), 5);
        Due.evening(x, "cost 0");
        Due.is("cost 0 is one", x.told(5), 0);
        Due.evening(x, "cost 99");
        Due.is("99", x.told(5), 99);
    }

    private static void lastOnesFar() {
        Due.words("FAR ..: the last one's n");
        LastAtPump x = new LastAtPump();
        Due.evening(x, "far 99;far 0");
        Due.is("0", x.told(4), 0);
        Due.evening(x, "far 0;cost 7;far 12;far 98;rain 1 p=0");
        Due.is("98", x.told(4), 98);
        Due.is("7", x.told(5), 7);
    }

    private static void lastOnesCost() {
        Due.words("COST ..: the last one's n");
        LastAtPump x = new LastAtPump();
        Due.evening(x, "cost 99;cost 0");
        Due.is("0", x.told(5), 0);
        Due.evening(x, "cost 0;far 7;cost 5;cost 98;dry 1 p=0");
        Due.is("98", x.told(5), 98);
        Due.is("7", x.told(4), 7);
    }

    private static void toldWhat() {
        Due.words("Promise 10: What 0 STEP .. 5 COST. NONE.");
        LastAtPump x = new LastAtPump();
        Due.all("1 nobody, 3 nobody", new long[] {x.told(1), x.told(3)}, -5, -5);
        Due.all("0, 5", new long[] {x.told(0), x.told(5)}, 0, 5);
        for (int what : Due.outside(0, 5)) {
            Due.is("what " + what, x.told(what), NONE);
        }
    }
}
