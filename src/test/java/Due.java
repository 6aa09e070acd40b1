/** What the tests share: an answer against the one that is due. */
final class Due {
    private static int wrong = 0;
    private static int asked = 0;
    private static String about = "";

    private Due() {
    }

    /** The document's words that the answers from here on are due by. */
    static void words(String words) {
        about = "[" + words + "] ";
    }

    static void is(String call, long got, long due) {
        asked++;
        if (got != due) {
            wrong++;
            if (wrong <= 40) {
                System.out.println(about + call + " answered " + got + ", due is " + due);
            }
        }
    }

    /** What several calls answer, in their order. */
    static void all(String calls, long[] got, long... due) {
        is(calls + " (how many)", got.length, due.length);
        for (int k = 0; k < Math.min(got.length, due.length); k++) {
            is(calls + " [" + k + "]", got[k], due[k]);
        }
    }

    static void end() {
        System.out.println(asked + " answers looked at, " + wrong + " not as due");
        if (wrong != 0) {
            System.exit(1);
        }
    }

    /** The last number beyond what is taken, on either side, and the utmost. */
    static int[] outside(int least, int most) {
        return new int[] {least - 1, most + 1, Integer.MIN_VALUE, Integer.MAX_VALUE};
    }

    static void steps(LastAtPump x, int n) {
        for (int k = 0; k < n; k++) {
            x.step();
        }
    }

    static void feed(LastAtPump x, String text) {
        for (int at = 0; at < text.length(); at++) {
            is("feed of '" + text + "' at " + at, x.feed(text.charAt(at)), at + 1);
        }
    }

    /** What evening() answers to a text. */
    static int evening(LastAtPump x, String text) {
        feed(x, text);
        return x.evening();
    }

    static void fault(String text, int place) {
        is("the fault of '" + text + "'", evening(new LastAtPump(), text), -10 - place);
    }

    /** A new object with people of one KIND, v 0: door, hopes; door, hopes; .. */
    static LastAtPump street(int kind, int... doorsAndHopes) {
        LastAtPump x = new LastAtPump();
        for (int k = 0; k < doorsAndHopes.length; k += 2) {
            is("person", x.person(kind, 0, doorsAndHopes[k], doorsAndHopes[k + 1]), k / 2);
        }
        return x;
    }
}
