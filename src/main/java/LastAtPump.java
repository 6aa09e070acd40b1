import java.util.Arrays;

/** Last at the pump: people in a street, and one bucket that goes from one to another. */
public final class LastAtPump {
    public static final int NONE = -1, BAD = -2, STATE = -3, FULL = -4;
    public static final long NO = Long.MIN_VALUE;

    // What the document answers by -5: nobody, none, not by then.
    private static final int MISSING = -5;
    private static final int NO_SUCH_FACT = -1001;
    private static final int NOTHING = -11, CAST = -12, PLACE = -13, SIZE = -14;

    private static final int PERSON = 0, OLD = 1, CHILD = 2, SLY = 3, WEARY = 4, DREADFUL = 5, TOLD = 6;
    private static final int KINDS = 7;
    private static final int[] ABOVE = {-1, PERSON, PERSON, PERSON, OLD, CHILD, SLY};

    private static final int MOST_PEOPLE = 6, MOST_EVENINGS = 6, MOST_SEEN = 6, MOST_GAME = 10, MOST_BOOK = 8;
    private static final int DOORS = 20, MOST_DIGIT = 9, MOST_WEIGHT = 999, PARTS = 4;
    private static final int MOST_STEP = 9999, MOST_SAID = 9999;
    private static final int FAR_ON = 99, NEAR_ON = 60;
    private static final int MOST_SIGN = 127;
    private static final int CARRIED = 0, SAID_SO = 1, WAS_LAST = 2;
    private static final int A_STEP = 0, HEAVIER = 1, HANDED = 2;
    // Weights of one eighth have one REACH: the lowest of the last eighth is 992.
    private static final int EIGHTH = 8, LAST_EIGHTH = 992;

    private final Scene now = new Scene();
    private final Scene kept = new Scene();
    private boolean hasKept;
    private final Street street = now.street;
    private final Street trial = new Street();
    private final Reader reader = new Reader();
    private int evenings;
    private final Acts acts = new Acts();
    private final Tapes tapes = new Tapes();

    public LastAtPump() {
    }

    // ---- people, evenings, the bucket

    public int person(int kind, int v, int door, int hopes) {
        if (!isWithin(kind, 0, KINDS - 1)) {
            return NONE;
        }
        if (!isDigit(v) || !isDoor(door) || !isDigit(hopes)) {
            return BAD;
        }
        return street.join(kind, v, door, hopes);
    }

    public int of(int person, int what) {
        if (!street.has(person)) {
            return NO_SUCH_FACT;
        }
        switch (what) {
            case 0: return street.kind[person];
            case 1: return street.v[person];
            case 2: return street.door[person];
            case 3: return street.hopes[person];
            case 4: return street.said[person];
            case 5: return street.reach(person);
            case 6: return street.target(person);
            case 7: return street.rain(person);
            default: return NO_SUCH_FACT;
        }
    }

    public int set(int person, int what, int n) {
        if (!street.has(person) || !isWithin(what, 0, 1)) {
            return NONE;
        }
        if (what == 0 ? !isDoor(n) : !isDigit(n)) {
            return BAD;
        }
        int[] changed = what == 0 ? street.door : street.hopes;
        int was = changed[person];
        changed[person] = n;
        return was;
    }

    public int row(int person, int part, int n) {
        if (!street.has(person) || !isWithin(part, 0, PARTS - 1)) {
            return NONE;
        }
        if (!isDigit(n)) {
            return BAD;
        }
        if (street.kind[person] != TOLD) {
            return STATE;
        }
        int at = person * PARTS + part;
        int was = street.rows[at];
        street.rows[at] = n;
        return was;
    }

    public int with(int person) {
        if (!street.has(person)) {
            return NONE;
        }
        int was = street.with;
        street.hand(person);
        return was;
    }

    public int weight(int n) {
        if (!isWithin(n, 0, MOST_WEIGHT)) {
            return BAD;
        }
        int was = street.weight;
        street.weight = n;
        return was;
    }

    public int feed(int sign) {
        if (!isWithin(sign, 0, MOST_SIGN)) {
            return BAD;
        }
        return reader.append(sign);
    }

    public int evening() {
        if (evenings >= MOST_EVENINGS) {
            return FULL;
        }
        Evening newest = reader.compile();
        if (newest == null) {
            return -10 - reader.fault();
        }
        street.evening = newest;
        evenings++;
        return evenings - 1;
    }

    public int told(int what) {
        switch (what) {
            case 0: return street.step;
            case 1: return street.holder();
            case 2: return street.weight;
            case 3: return street.last;
            case 4: return street.far();
            case 5: return street.cost();
            default: return NONE;
        }
    }

    // ---- steps

    public int step() {
        if (street.step >= MOST_STEP) {
            return STATE;
        }
        return street.move();
    }

    public int on(int n, int what) {
        boolean isHopes = street.has(what - 10);
        boolean isSaid = street.has(what - 20);
        if (!isWithin(what, 0, 2) && !isHopes && !isSaid) {
            return NONE;
        }
        if (!isWithin(n, 0, FAR_ON)) {
            return BAD;
        }
        trial.become(street);
        trial.go(n);
        if (isHopes) {
            return trial.hopes[what - 10];
        }
        return isSaid ? trial.said[what - 20] : trial.bucket(what);
    }

    public int ends() {
        trial.become(street);
        int end = trial.outlast();
        return end > FAR_ON ? MISSING : end;
    }

    public int longest() {
        int best = MISSING;
        int latest = -1;
        for (int start = 0; start < street.people; start++) {
            startWith(start);
            int end = trial.outlast();
            if (end > latest) {
                latest = end;
                best = start;
            }
        }
        return best;
    }

    // ---- what is best

    public int stand(int person, int n, int what) {
        if (!street.has(person) || !isWithin(what, 0, 1)) {
            return NONE;
        }
        if (!isWithin(n, 1, NEAR_ON)) {
            return BAD;
        }
        int best = 0;
        int least = Integer.MAX_VALUE;
        for (int door = 0; door < DOORS; door++) {
            trial.become(street);
            trial.door[person] = door;
            trial.go(n);
            int tells = trial.said[person] - street.said[person];
            if (tells < least) {
                least = tells;
                best = door;
            }
        }
        return what == 0 ? best : least;
    }

    public int needs(int person, int n) {
        if (!street.has(person)) {
            return NONE;
        }
        if (!isWithin(n, 1, NEAR_ON)) {
            return BAD;
        }
        for (int hopes = 0; hopes <= MOST_DIGIT; hopes++) {
            trial.become(street);
            trial.hopes[person] = hopes;
            trial.go(n);
            if (trial.last != person) {
                return hopes;
            }
        }
        return MISSING;
    }

    public int heavy(int person) {
        if (!street.has(person)) {
            return NONE;
        }
        startWith(person);
        for (int lowest = LAST_EIGHTH; lowest >= 0; lowest -= EIGHTH) {
            trial.weight = lowest + EIGHTH - 1;
            int other = trial.target(person);
            if (other >= 0 && trial.way(person, other) <= trial.reach(person)) {
                return trial.weight;
            }
        }
        return MISSING;
    }

    public int change() {
        trial.become(street);
        int latest = trial.outlast();
        int best = MISSING;
        for (int one = 0; one < street.people; one++) {
            for (int other = one + 1; other < street.people; other++) {
                trial.become(street);
                trial.door[one] = street.door[other];
                trial.door[other] = street.door[one];
                int end = trial.outlast();
                if (end > latest) {
                    latest = end;
                    best = 10 * one + other;
                }
            }
        }
        return best;
    }

    public int mute(int n) {
        if (!isWithin(n, 1, NEAR_ON)) {
            return BAD;
        }
        int silent = (1 << street.people) - 1;
        for (int start = 0; start < street.people; start++) {
            startWith(start);
            trial.go(n);
            for (int p = 0; p < street.people; p++) {
                if (trial.said[p] != street.said[p]) {
                    silent &= ~(1 << p);
                }
            }
        }
        return silent;
    }

    // ---- seen, odds

    public int see(int person, int n) {
        if (person == -1) {
            return now.seen.empty();
        }
        if (!street.has(person)) {
            return NONE;
        }
        if (!isWithin(n, 0, NEAR_ON)) {
            return BAD;
        }
        return now.seen.add(person, n);
    }

    public int from() {
        int can = 0;
        for (int start = 0; start < street.people; start++) {
            startWith(start);
            if (isAllSeenSo()) {
                can |= 1 << start;
            }
        }
        return can;
    }

    public int had(int person, int what) {
        if (!street.has(person) || !isWithin(what, 0, 1)) {
            return NONE;
        }
        int fitting = 0;
        int least = MISSING;
        for (int hopes = MOST_DIGIT; hopes >= 0; hopes--) {
            trial.become(street);
            trial.hopes[person] = hopes;
            if (isAllSeenSo()) {
                fitting++;
                least = hopes;
            }
        }
        return what == 0 ? fitting : least;
    }

    public long odds(int n, int part) {
        if (!isWithin(n, 0, FAR_ON) || !isWithin(part, 0, 1) || street.people == 0) {
            return NO;
        }
        int ended = 0;
        for (int start = 0; start < street.people; start++) {
            startWith(start);
            trial.go(n);
            if (trial.isAtEnd()) {
                ended++;
            }
        }
        return fraction(ended, street.people, part);
    }

    public long mean(int n, int part) {
        if (!isWithin(n, 1, NEAR_ON) || !isWithin(part, 0, 1)) {
            return NO;
        }
        int together = 0;
        trial.become(street);
        for (int behind = 1; behind <= n; behind++) {
            trial.move();
            together += trial.weight;
        }
        return fraction(together, n, part);
    }

    // ---- games, books

    public int game(int what, int person) {
        if (what == -1) {
            return now.game.empty();
        }
        if (!isWithin(what, A_STEP, HANDED) || what == HANDED && !street.has(person)) {
            return NONE;
        }
        return now.game.add(what, person);
    }

    public int gone(int what) {
        if (!isWithin(what, 0, 2)) {
            return NONE;
        }
        trial.become(street);
        for (int r = 0; r < now.game.size; r++) {
            trial.play(now.game.left[r], now.game.right[r]);
        }
        return trial.bucket(what);
    }

    public int book(int person, int said) {
        if (person == -1) {
            return now.book.empty();
        }
        if (!street.has(person)) {
            return NONE;
        }
        if (!isWithin(said, 0, MOST_SAID)) {
            return BAD;
        }
        return now.book.add(person, said);
    }

    public int looked() {
        for (int r = 0; r < now.book.size; r++) {
            int person = now.book.left[r];
            if (!street.has(person) || street.said[person] != now.book.right[r]) {
                return r;
            }
        }
        return MISSING;
    }

    // ---- judging, the image, acts, tapes

    public int judge(int tape, int i) {
        if (!tapes.has(tape)) {
            return NONE;
        }
        if (tapes.holds(tape) && tapes.sorts[tape] != Tapes.BYTES) {
            return CAST;
        }
        for (int p = 0; p < street.people; p++) {
            if (!tapes.hasPlace(tape, i + p)) {
                return 100 + p;
            }
            if (tapes.rows[tape][i + p] != street.hopes[p]) {
                return p;
            }
        }
        return MISSING;
    }

    public int image() {
        kept.become(now);
        hasKept = true;
        return street.people;
    }

    public int undo() {
        if (!hasKept) {
            return STATE;
        }
        now.become(kept);
        return street.people;
    }

    public int act(int person, int act, int x) {
        acts.forget();
        if (!street.has(person) || !isWithin(act, 0, Acts.MOST_ACT)) {
            return 0;
        }
        return acts.perform(street, person, act, x);
    }

    public int trace(int i) {
        return acts.kept(i);
    }

    public int taken(int person, int k) {
        if (!isWithin(k, 0, KINDS - 1)) {
            return BAD;
        }
        if (!street.has(person)) {
            return NOTHING;
        }
        int kind = street.kind[person];
        return isOrIsUnder(kind, k) ? kind : CAST;
    }

    public int count(int what) {
        switch (what) {
            case 0: return street.people;
            case 1: return evenings;
            case 2: return now.seen.size;
            case 3: return now.game.size;
            case 4: return now.book.size;
            case 5: return reader.length;
            case 6: return acts.ran;
            default: return BAD;
        }
    }

    public int tape(int tape, int sort, int n) {
        return tapes.make(tape, sort, n);
    }

    public int item(int tape, int i, long v) {
        return tapes.put(tape, i, v);
    }

    public long read(int tape, int i) {
        if (!tapes.has(tape) || !tapes.hasPlace(tape, i)) {
            return NO;
        }
        return tapes.rows[tape][i];
    }

    public int shift(int tape, int i, int other, int j, int n) {
        return tapes.bring(tape, i, other, j, n);
    }

    // ---- what the calls share

    private static boolean isWithin(int n, int least, int most) {
        return n >= least && n <= most;
    }

    private static boolean isDigit(int n) {
        return isWithin(n, 0, MOST_DIGIT);
    }

    private static boolean isDoor(int n) {
        return isWithin(n, 0, DOORS - 1);
    }

    private static boolean isOrIsUnder(int kind, int k) {
        int up = kind;
        for (int level = 0; level < KINDS && up >= 0 && up < KINDS; level++) {
            if (up == k) {
                return true;
            }
            up = ABOVE[up];
        }
        return false;
    }

    private void startWith(int person) {
        trial.become(street);
        trial.hand(person);
    }

    /** Whether the trial, going on from where it is, is as SEEN tells. */
    private boolean isAllSeenSo() {
        for (int behind = 0; behind <= NEAR_ON; behind++) {
            for (int r = 0; r < now.seen.size; r++) {
                if (now.seen.right[r] == behind && now.seen.left[r] != trial.holder()) {
                    return false;
                }
            }
            trial.move();
        }
        return true;
    }

    /** A part of above by below in lowest terms; below is 1 at least. */
    private static long fraction(int above, int below, int part) {
        int common = 1;
        for (int d = 2; d <= below; d++) {
            if (above % d == 0 && below % d == 0) {
                common = d;
            }
        }
        return part == 0 ? above / common : below / common;
    }

    /** What THE IMAGE holds: the street, and what was told by hand. */
    private static final class Scene {
        final Street street = new Street();
        final Pairs seen = new Pairs(MOST_SEEN);
        final Pairs game = new Pairs(MOST_GAME);
        final Pairs book = new Pairs(MOST_BOOK);

        void become(Scene other) {
            street.become(other.street);
            seen.become(other.seen);
            game.become(other.game);
            book.become(other.book);
        }
    }

    /** Rows of two numbers, as many as there is room for. */
    private static final class Pairs {
        final int[] left;
        final int[] right;
        int size;

        Pairs(int room) {
            left = new int[room];
            right = new int[room];
        }

        int empty() {
            size = 0;
            return 0;
        }

        int add(int a, int b) {
            if (size >= left.length) {
                return FULL;
            }
            left[size] = a;
            right[size] = b;
            size++;
            return size;
        }

        void become(Pairs other) {
            System.arraycopy(other.left, 0, left, 0, left.length);
            System.arraycopy(other.right, 0, right, 0, right.length);
            size = other.size;
        }
    }

    /** All that a STEP looks at and changes. */
    private static final class Street {
        private static final int FAR_WITHOUT = 12, COST_WITHOUT = 5;

        final int[] kind = new int[MOST_PEOPLE];
        final int[] v = new int[MOST_PEOPLE];
        final int[] door = new int[MOST_PEOPLE];
        final int[] hopes = new int[MOST_PEOPLE];
        final int[] said = new int[MOST_PEOPLE];
        final int[] rows = new int[MOST_PEOPLE * PARTS];
        int people;
        int with;
        int weight;
        int step;
        int last = MISSING;
        Evening evening;

        void become(Street other) {
            System.arraycopy(other.kind, 0, kind, 0, MOST_PEOPLE);
            System.arraycopy(other.v, 0, v, 0, MOST_PEOPLE);
            System.arraycopy(other.door, 0, door, 0, MOST_PEOPLE);
            System.arraycopy(other.hopes, 0, hopes, 0, MOST_PEOPLE);
            System.arraycopy(other.said, 0, said, 0, MOST_PEOPLE);
            System.arraycopy(other.rows, 0, rows, 0, MOST_PEOPLE * PARTS);
            people = other.people;
            with = other.with;
            weight = other.weight;
            step = other.step;
            last = other.last;
            evening = other.evening;
        }

        boolean has(int p) {
            return p >= 0 && p < people;
        }

        int join(int itsKind, int itsV, int itsDoor, int itsHopes) {
            if (people >= MOST_PEOPLE) {
                return FULL;
            }
            int p = people;
            kind[p] = itsKind;
            v[p] = itsV;
            door[p] = itsDoor;
            hopes[p] = itsHopes;
            // SAID and the ROW are 0: nobody had this number, and undo() leaves none of whom it takes away.
            people++;
            return p;
        }

        int holder() {
            return people == 0 ? MISSING : with;
        }

        void hand(int p) {
            with = p;
            last = MISSING;
        }

        boolean isAtEnd() {
            return last != MISSING;
        }

        int bucket(int what) {
            switch (what) {
                case 0: return holder();
                case 1: return weight;
                default: return last;
            }
        }

        int far() {
            return evening == null ? FAR_WITHOUT : evening.far;
        }

        int cost() {
            return evening == null ? COST_WITHOUT : evening.cost;
        }

        int rain(int p) {
            return evening == null ? 0 : evening.rain(this, p);
        }

        /** What a letter, by its place in Evening.LETTERS, tells of p. */
        int fact(int letter, int p) {
            switch (letter) {
                case 0: return p;
                case 1: return kind[p];
                case 2: return door[p];
                case 3: return hopes[p];
                case 4: return weight / 10;
                default: return step % 10;
            }
        }

        int reach(int p) {
            int plain = Math.max(0, far() - weight / EIGHTH);
            int old = Math.max(0, plain - v[p] / 2);
            switch (kind[p]) {
                case OLD: return old;
                case WEARY: return old / 2;
                case CHILD: return plain + 2;
                case DREADFUL: return isDreadfulNow(p) ? 0 : plain + 2;
                case TOLD: return plain + rows[p * PARTS + step % PARTS];
                default: return plain;
            }
        }

        private boolean isDreadfulNow(int p) {
            int every = v[p] + 2;
            return every > 0 && step % every == 0;
        }

        int way(int p, int q) {
            return Math.abs(door[p] - door[q]);
        }

        /** TO whom p would carry it, MISSING if there is nobody else. */
        int target(int p) {
            switch (kind[p]) {
                case CHILD:
                case DREADFUL:
                    int farthest = farthestWithin(p, reach(p));
                    return farthest == MISSING ? nearest(p) : farthest;
                case SLY:
                case TOLD:
                    return mostHopeful(p);
                default:
                    return nearest(p);
            }
        }

        private int nearest(int p) {
            int best = MISSING;
            for (int q = 0; q < people; q++) {
                if (q != p && (best == MISSING || way(p, q) < way(p, best))) {
                    best = q;
                }
            }
            return best;
        }

        private int farthestWithin(int p, int reach) {
            int best = MISSING;
            for (int q = 0; q < people; q++) {
                if (q != p && way(p, q) <= reach && (best == MISSING || way(p, q) > way(p, best))) {
                    best = q;
                }
            }
            return best;
        }

        private int mostHopeful(int p) {
            int best = MISSING;
            for (int q = 0; q < people; q++) {
                if (q != p && (best == MISSING || hopes[q] > hopes[best])) {
                    best = q;
                }
            }
            return best;
        }

        /** A STEP: how it went, or STATE if none goes: at the END, or if there is nobody to carry it to. */
        int move() {
            int other = isAtEnd() ? MISSING : target(with);
            if (other == MISSING) {
                return STATE;
            }
            int how = carryOrTell(with, other);
            // All of a STEP is by how it is ahead of it: so this comes last.
            step++;
            return how;
        }

        private int carryOrTell(int p, int q) {
            if (way(p, q) <= reach(p)) {
                weight = Math.max(0, Math.min(MOST_WEIGHT, weight + rain(p)));
                with = q;
                return CARRIED;
            }
            if (hopes[p] > 0) {
                hopes[p]--;
                said[p]++;
                weight = Math.min(MOST_WEIGHT, weight + cost());
                return SAID_SO;
            }
            last = p;
            return WAS_LAST;
        }

        void go(int n) {
            for (int k = 0; k < n; k++) {
                move();
            }
        }

        /** Goes on: behind how many STEPS it is at the END; one more than FAR_ON, if not by then. */
        int outlast() {
            for (int behind = 0; behind <= FAR_ON; behind++) {
                if (isAtEnd()) {
                    return behind;
                }
                move();
            }
            return FAR_ON + 1;
        }

        /** A row of a GAME goes. */
        void play(int what, int person) {
            switch (what) {
                case A_STEP:
                    move();
                    break;
                case HEAVIER:
                    weight = Math.min(MOST_WEIGHT, weight + 10);
                    break;
                default:
                    hand(person);
                    break;
            }
        }
    }

    /** An EVENING as codes, each E behind its parts: what its rain is needs no reading again. */
    private static final class Evening {
        static final String LETTERS = "pkdhws", RELATIONS = "<=>";
        // The first three are the places of RELATIONS.
        static final int LESS = 0, EQUAL = 1, MORE = 2, AND = 3, OR = 4, NOT = 5, RAIN = 6, DRY = 7;

        private final int[] codes;
        final int far;
        final int cost;

        Evening(int[] codes, int far, int cost) {
            this.codes = codes;
            this.far = far;
            this.cost = cost;
        }

        static int code(int sort, int letter, int n) {
            return sort << 16 | letter << 8 | n;
        }

        int rain(Street street, int p) {
            int together = 0;
            // A stack of bits, the lowest is the newest: ( and ! go 4 deep, so 11 bits are the most.
            int held = 0;
            for (int at = 0; at < codes.length; at++) {
                int fact = street.fact(codes[at] >> 8 & 255, p);
                int n = codes[at] & 255;
                switch (codes[at] >> 16) {
                    case LESS:
                        held = held << 1 | (fact < n ? 1 : 0);
                        break;
                    case EQUAL:
                        held = held << 1 | (fact == n ? 1 : 0);
                        break;
                    case MORE:
                        held = held << 1 | (fact > n ? 1 : 0);
                        break;
                    case AND:
                        held = held >> 1 & (held | ~1);
                        break;
                    case OR:
                        held = held >> 1 | held & 1;
                        break;
                    case NOT:
                        held ^= 1;
                        break;
                    case RAIN:
                        together += held * n;
                        held = 0;
                        break;
                    default:
                        together -= held * n;
                        held = 0;
                        break;
                }
            }
            return together;
        }
    }

    /** THE TEXT, and how an EVENING is read from it. What reads a part answers whether it stands there;
     *  if it doesn't, place is the FAULT. */
    private static final class Reader {
        private static final int MOST_TEXT = 100, MOST_CLAUSES = 10, MOST_WITHIN = 4;

        private final byte[] text = new byte[MOST_TEXT];
        int length;
        private int place;
        private int number;
        // Each code comes of a byte of its own at least.
        private final int[] codes = new int[MOST_TEXT];
        private int used;
        private int far;
        private int cost;

        int append(int sign) {
            if (length >= MOST_TEXT) {
                return FULL;
            }
            text[length] = (byte) sign;
            length++;
            return length;
        }

        /** THE TEXT's EVENING, or null: fault() tells where. THE TEXT is empty then. */
        Evening compile() {
            place = 0;
            used = 0;
            far = Street.FAR_WITHOUT;
            cost = Street.COST_WITHOUT;
            boolean stands = clause();
            for (int clauses = 1; clauses < MOST_CLAUSES && stands && take(';'); clauses++) {
                stands = clause();
            }
            stands = stands && place == length;
            length = 0;
            return stands ? new Evening(Arrays.copyOf(codes, used), far, cost) : null;
        }

        int fault() {
            return place;
        }

        private boolean clause() {
            int first = ahead();
            if (!word(first) || !number()) {
                return false;
            }
            int n = number;
            if (first == 'f') {
                far = n;
                return true;
            }
            if (first == 'c') {
                cost = n;
                return true;
            }
            if (!take(' ') || !expression(0)) {
                return false;
            }
            emit(first == 'r' ? Evening.RAIN : Evening.DRY, 0, n);
            return true;
        }

        /** The word that begins so, and the blank behind it. */
        private boolean word(int first) {
            String word = first == 'r' ? "rain " : first == 'd' ? "dry " : first == 'f' ? "far " : "cost ";
            for (int at = 0; at < word.length(); at++) {
                if (!take(word.charAt(at))) {
                    return false;
                }
            }
            return true;
        }

        private boolean number() {
            int digit = ahead() - '0';
            if (digit < 0 || digit > MOST_DIGIT) {
                return false;
            }
            place++;
            number = digit;
            digit = ahead() - '0';
            if (digit >= 0 && digit <= MOST_DIGIT) {
                place++;
                number = 10 * number + digit;
            }
            return true;
        }

        /** E: & and | are taken from the left on, which holds as E, T tell and keeps few bits waiting. */
        private boolean expression(int within) {
            for (int terms = 0; terms < MOST_TEXT; terms++) {
                if (!factor(within)) {
                    return false;
                }
                for (int factors = 1; factors < MOST_TEXT && take('&'); factors++) {
                    if (!factor(within)) {
                        return false;
                    }
                    emit(Evening.AND, 0, 0);
                }
                if (terms > 0) {
                    emit(Evening.OR, 0, 0);
                }
                if (!take('|')) {
                    return true;
                }
            }
            return false;
        }

        private boolean factor(int within) {
            int sign = ahead();
            if (sign != '!' && sign != '(') {
                return test();
            }
            if (within >= MOST_WITHIN) {
                return false;
            }
            place++;
            if (sign == '(') {
                return expression(within + 1) && take(')');
            }
            if (!factor(within + 1)) {
                return false;
            }
            emit(Evening.NOT, 0, 0);
            return true;
        }

        private boolean test() {
            int letter = among(Evening.LETTERS);
            if (letter < 0) {
                return false;
            }
            place++;
            int relation = among(Evening.RELATIONS);
            if (relation < 0) {
                return false;
            }
            place++;
            if (!number()) {
                return false;
            }
            emit(relation, letter, number);
            return true;
        }

        private int ahead() {
            return place < length ? text[place] : -1;
        }

        /** Which of some signs is ahead; below 0: none. */
        private int among(String signs) {
            return place < length ? signs.indexOf((char) text[place]) : -1;
        }

        private boolean take(int sign) {
            if (place >= length || text[place] != sign) {
                return false;
            }
            place++;
            return true;
        }

        private void emit(int sort, int letter, int n) {
            if (used < MOST_TEXT) {
                codes[used] = Evening.code(sort, letter, n);
                used++;
            }
        }
    }

    /** The bodies that an ACT runs, and THE TRACE of them. */
    private static final class Acts {
        static final int WAITS = 0, TELLS = 1, HOPES = 2, MOST_ACT = 2;
        private static final int MOST_KEPT = 20;
        // A TOLD one's hopes opens six bodies one within another, and none more: what would go deeper is refused.
        private static final int MOST_OPEN = 12;
        // By ACT and KIND: the body of that KIND, or of the next one above that has one.
        private static final int[] BODIES = {
            10, 10, 30, 10, 50, 30, 71,
            11, 20, 11, 11, 51, 11, 70,
            12, 12, 12, 40, 12, 60, 40,
        };

        private final int[] trace = new int[MOST_KEPT];
        int ran;
        private int own;
        private int v;
        private int i;

        void forget() {
            ran = 0;
        }

        int kept(int at) {
            return at >= 0 && at < ran && at < MOST_KEPT ? trace[at] : NONE;
        }

        int perform(Street street, int person, int act, int x) {
            own = street.kind[person];
            v = street.v[person];
            i = person;
            return run(act, own, x, 0);
        }

        private void begin(int body) {
            if (ran < MOST_KEPT) {
                trace[ran] = body;
            }
            ran++;
        }

        /** An ACT as a KIND does it: the one's own KIND, or one above it (super). */
        private int run(int act, int kind, int x, int open) {
            if (open >= MOST_OPEN) {
                return 0;
            }
            int body = BODIES[act * KINDS + kind];
            begin(body);
            return within(body, x, open + 1);
        }

        private int within(int body, int x, int open) {
            switch (body) {
                case 10: return x + i;
                case 11: return run(WAITS, own, x, open) - v;
                case 12: return run(TELLS, own, x, open) * 2;
                case 20: return run(TELLS, PERSON, x, open) ^ 6;
                case 30: return run(WAITS, PERSON, x * 3, open);
                case 40: return run(HOPES, PERSON, x, open) + run(TELLS, own, 1, open);
                case 50: return -run(WAITS, OLD, x, open);
                case 51: return run(TELLS, OLD, x + 1, open);
                case 60: return run(HOPES, CHILD, x - i, open);
                case 70: return run(TELLS, SLY, x, open) + run(WAITS, SLY, 2, open);
                default: return run(WAITS, SLY, x, open) ^ v;
            }
        }
    }

    /** TAPES: an item of any sort is kept as a long, cut to what its sort can hold. */
    private static final class Tapes {
        static final int BYTES = 0;
        private static final int EMPTY = -1, SHORTS = 1, INTS = 2, LONGS = 3, BOOLEANS = 4;
        private static final int TAPES = 6, MOST_ITEMS = 60;

        final int[] sorts = new int[TAPES];
        private final int[] sizes = new int[TAPES];
        final long[][] rows = new long[TAPES][MOST_ITEMS];

        Tapes() {
            Arrays.fill(sorts, EMPTY);
        }

        boolean has(int tape) {
            return isWithin(tape, 0, TAPES - 1);
        }

        boolean holds(int tape) {
            return sorts[tape] != EMPTY;
        }

        /** A TAPE that holds nothing has no place: its size is 0. */
        boolean hasPlace(int tape, int i) {
            return i >= 0 && i < sizes[tape];
        }

        int make(int tape, int sort, int n) {
            if (!has(tape)) {
                return NONE;
            }
            if (!isWithin(sort, EMPTY, BOOLEANS)) {
                return BAD;
            }
            int size = sort == EMPTY ? 0 : n;
            if (size > MOST_ITEMS) {
                return BAD;
            }
            if (size < 0) {
                return SIZE;
            }
            sorts[tape] = sort;
            sizes[tape] = size;
            Arrays.fill(rows[tape], 0L);
            return 1;
        }

        int put(int tape, int i, long v) {
            if (!has(tape)) {
                return NONE;
            }
            if (!holds(tape)) {
                return NOTHING;
            }
            if (!hasPlace(tape, i)) {
                return PLACE;
            }
            rows[tape][i] = cut(sorts[tape], v);
            return 1;
        }

        private static long cut(int sort, long v) {
            switch (sort) {
                case BYTES: return (byte) v;
                case SHORTS: return (short) v;
                case INTS: return (int) v;
                case LONGS: return v;
                default: return v != 0 ? 1 : 0;
            }
        }

        int bring(int tape, int i, int other, int j, int n) {
            if (!has(tape) || !has(other)) {
                return NONE;
            }
            if (!holds(tape) || !holds(other)) {
                return NOTHING;
            }
            if (sorts[tape] != sorts[other]) {
                return CAST;
            }
            if (n < 0 || !hasRun(tape, i, n) || !hasRun(other, j, n)) {
                return PLACE;
            }
            System.arraycopy(rows[tape], i, rows[other], j, n);
            return n;
        }

        /** Whether n items stand from i on; said so that no sum can wrap. */
        private boolean hasRun(int tape, int i, int n) {
            return i >= 0 && i <= sizes[tape] - n;
        }
    }
}
