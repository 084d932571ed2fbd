import java.util.Arrays;

/** A slide of ten turns and those who ride it, as ../shared/DOC.md tells it; words in capitals there are names here. */
public final class HelterSlide {
    public static final int BAD = -1, NOT = -2, FULL = -3, NONE = -4, NULL = -11, CAST = -12, INDEX = -13, SIZE = -14;

    private static final int TURNS = 10;
    private static final int RIDERS = 5;
    private static final int KINDS = 5;
    private static final int PLAIN = 0, STOUT = 1, CLERK = 2, STANDER = 3, KING = 4;
    private static final int MOST_ROUGH = 9, MOST_BUMP = 9, MOST_HEAVY = 20, MOST_LEAN = 7;
    private static final int FIRST_SPEED = 2, MOST_SPEED = 30;
    private static final int PLAIN_GAIN = 2, CLERK_LOSS = 2, CLERK_SPEED = 6;
    private static final int OUTCOMES = 8;
    private static final int STUCK = 10;
    private static final int TOP = 30;
    private static final int MOST_RIDES = 9999;
    private static final int MOST_DRIFTS = 40;
    private static final int LOWEST_31_BITS = 0x7fffffff;
    private static final int MOST_ORDERS = 120;
    private static final int AS_IT_IS = 100;
    private static final int FAULT = -20;
    private static final int SHEETS = 4, LANES = 4;
    private static final int FINE = 0;

    private final Slide now = new Slide();
    private final Slide trial = new Slide();
    private final History history = new History();
    private final Slide keptSlide = new Slide();
    private final History keptHistory = new History();
    private boolean kept = false;
    private final Tape tape = new Tape();
    private final Sheet[] sheets = new Sheet[SHEETS];
    private final int[] speeds = new int[TURNS];
    private final Order tried = new Order();
    private final Order best = new Order();
    private final Rain rainfall = new Rain();

    public HelterSlide() {
        for (int s = 0; s < sheets.length; s++) {
            sheets[s] = new Sheet();
        }
    }

    // ---- 1 turns, riders

    public int rider(int kind, int heavy, int lean) {
        if (!within(kind, 0, KINDS - 1) || !within(heavy, 1, MOST_HEAVY) || !within(lean, 0, MOST_LEAN)) {
            return BAD;
        }
        int number = now.addRider(kind, heavy, lean);
        if (number != FULL) {
            history.forgetAll();
        }
        return number;
    }

    public int lean(int rider, int v) {
        if (!now.hasRider(rider) || !within(v, 0, MOST_LEAN)) {
            return BAD;
        }
        int was = now.lean[rider];
        now.lean[rider] = v;
        return was;
    }

    public int of(int rider, int what) {
        if (!now.hasRider(rider)) {
            return BAD;
        }
        switch (what) {
            case 0: return now.kind[rider];
            case 1: return now.heavy[rider];
            case 2: return now.lean[rider];
            case 3: return now.place[rider];
            default: return BAD;
        }
    }

    public int at(int turn, int what) {
        if (!isTurn(turn)) {
            return BAD;
        }
        switch (what) {
            case 0: return now.rough[turn];
            case 1: return now.bump[turn];
            case 2: return now.stuckOn(turn);
            default: return BAD;
        }
    }

    public int gains(int rider, int turn, int speed) {
        if (!now.hasRider(rider) || !isTurn(turn) || !within(speed, 0, MOST_SPEED)) {
            return BAD;
        }
        return now.gained(rider, turn, speed);
    }

    public int type(int letter) {
        if (!within(letter, Tape.BLANK, Tape.LAST_LETTER)) {
            return BAD;
        }
        return tape.append(letter);
    }

    public int slide() {
        boolean readable = tape.readSlide(trial);
        int fault = FAULT - tape.place;
        tape.clear();
        if (!readable) {
            return fault;
        }
        trial.draw = now.draw;
        now.become(trial);
        history.forgetAll();
        return now.riders;
    }

    public int count(int what) {
        switch (what) {
            case 0: return now.riders;
            case 1: return now.rides;
            case 2: return now.ridersAtTop();
            case 3: return now.ridersThrough();
            case 4: return now.turnsTaken();
            case 5: return sum(now.rough);
            case 6: return sum(now.bump);
            case 7: return history.known;
            default: return BAD;
        }
    }

    // ---- what is done

    public int ride(int rider) {
        if (!now.hasRider(rider)) {
            return BAD;
        }
        if (now.rides >= MOST_RIDES) {
            return FULL;
        }
        if (now.place[rider] != TOP) {
            return NOT;
        }
        history.remember(now);
        return now.sendDown(rider, speeds);
    }

    public int wax(int turn, int v) {
        if (!isTurn(turn) || !within(v, 0, MOST_ROUGH)) {
            return BAD;
        }
        int was = now.rough[turn];
        if (was == v) {
            return NOT;
        }
        history.remember(now);
        now.rough[turn] = v;
        return was;
    }

    public int hammer(int turn, int v) {
        if (!isTurn(turn) || !within(v, 0, MOST_BUMP)) {
            return BAD;
        }
        int was = now.bump[turn];
        if (was == v) {
            return NOT;
        }
        history.remember(now);
        now.bump[turn] = v;
        return was;
    }

    public int up(int rider) {
        if (!now.hasRider(rider)) {
            return BAD;
        }
        int was = now.place[rider];
        if (was == TOP) {
            return NOT;
        }
        history.remember(now);
        now.place[rider] = TOP;
        return was;
    }

    public int drift(int n) {
        if (!within(n, 1, MOST_DRIFTS)) {
            return BAD;
        }
        if (now.rides + n > MOST_RIDES) {
            return FULL;
        }
        for (int i = 0; i < n; i++) {
            history.remember(now);
            now.driftOnce(speeds);
        }
        return now.ridersThrough();
    }

    public int undo() {
        return history.takeBack(now) ? history.known : NONE;
    }

    public int seed(int v) {
        if (v < 0) {
            return BAD;
        }
        int was = now.draw;
        now.draw = v;
        return was;
    }

    // ---- 2 foretold

    public int speed(int rider, int turn) {
        if (!now.hasRider(rider) || !isTurn(turn)) {
            return BAD;
        }
        now.foretell(rider, speeds);
        return speeds[turn];
    }

    public int ends(int rider) {
        return now.hasRider(rider) ? now.foretell(rider, speeds) : BAD;
    }

    public int fast(int rider, int what) {
        if (!now.hasRider(rider) || !within(what, 0, 1)) {
            return BAD;
        }
        now.foretell(rider, speeds);
        int fastest = firstOfGreatest(speeds);
        if (speeds[fastest] == NONE) {
            return NONE;
        }
        return what == 0 ? fastest : speeds[fastest];
    }

    public int who(int x) {
        if (!isOutcome(x)) {
            return BAD;
        }
        int set = 0;
        for (int r = 0; r < now.riders; r++) {
            if (now.foretell(r, speeds) == x) {
                set |= 1 << r;
            }
        }
        return set;
    }

    public int waxes(int rider, int x) {
        if (!now.hasRider(rider) || !isOutcome(x)) {
            return BAD;
        }
        if (now.foretell(rider, speeds) == x) {
            return AS_IT_IS;
        }
        trial.become(now);
        for (int t = 0; t < TURNS; t++) {
            int v = firstWaxFor(rider, t, x);
            if (v != NONE) {
                return 10 * t + v;
            }
        }
        return NONE;
    }

    /** The trial is left as it was found, so that the next turn can be tried on it. */
    private int firstWaxFor(int rider, int turn, int x) {
        int was = trial.rough[turn];
        int found = NONE;
        for (int v = 0; v <= MOST_ROUGH && found == NONE; v++) {
            trial.rough[turn] = v;
            if (trial.foretell(rider, speeds) == x) {
                found = v;
            }
        }
        trial.rough[turn] = was;
        return found;
    }

    public int may(int rider, int turn) {
        if (!now.hasRider(rider) || !isTurn(turn)) {
            return BAD;
        }
        trial.become(now);
        int set = 0;
        for (int v = 0; v <= MOST_ROUGH; v++) {
            trial.rough[turn] = v;
            int end = trial.foretell(rider, speeds);
            if (isOutcome(end)) {
                set |= 1 << end;
            }
        }
        return set;
    }

    public int weight(int rider) {
        if (!now.hasRider(rider)) {
            return BAD;
        }
        trial.become(now);
        for (int heavy = 1; heavy <= MOST_HEAVY; heavy++) {
            trial.heavy[rider] = heavy;
            if (isOutcome(trial.foretell(rider, speeds))) {
                return heavy;
            }
        }
        return NONE;
    }

    public int bump(int what) {
        if (!within(what, 0, 1)) {
            return BAD;
        }
        trial.become(now);
        int turn = 0;
        int most = -1;
        for (int t = 0; t < TURNS; t++) {
            int through = throughWithoutBump(t);
            if (through > most) {
                most = through;
                turn = t;
            }
        }
        return what == 0 ? turn : most;
    }

    /** The trial is left as it was found, so that the next turn can be tried on it. */
    private int throughWithoutBump(int turn) {
        int was = trial.bump[turn];
        trial.bump[turn] = 0;
        int through = 0;
        for (int r = 0; r < trial.riders; r++) {
            if (isOutcome(trial.foretell(r, speeds))) {
                through++;
            }
        }
        trial.bump[turn] = was;
        return through;
    }

    public int order(int k) {
        if (k < -1) {
            return BAD;
        }
        int through = findBestOrder();
        return k == -1 ? through : best.numberAt(k);
    }

    /** Orders are tried rising by numbers, so the first of like ones is the one that stays. */
    private int findBestOrder() {
        tried.begin(now);
        int most = -1;
        boolean more = true;
        for (int i = 0; i < MOST_ORDERS && more; i++) {
            int through = throughBy(tried);
            if (through > most) {
                most = through;
                best.become(tried);
            }
            more = tried.advance();
        }
        return most;
    }

    private int throughBy(Order order) {
        trial.become(now);
        for (int k = 0; k < order.size; k++) {
            trial.sendDown(order.numberAt(k), speeds);
        }
        return Integer.bitCount(trial.ridersThrough());
    }

    public long rain(int rider, int c, int what) {
        if (!now.hasRider(rider) || !within(c, 0, Rain.CERTAIN) || !within(what, 0, 1)) {
            return BAD;
        }
        long above = rainfall.waysThrough(now, rider, c);
        long below = Rain.ALL_WAYS;
        // Below is ten 2s and ten 5s: no other divisor can be shared, and 0 above leaves 1 below.
        for (int i = 0; i < TURNS; i++) {
            if (above % 2 == 0) {
                above /= 2;
                below /= 2;
            }
            if (above % 5 == 0) {
                above /= 5;
                below /= 5;
            }
        }
        return what == 0 ? above : below;
    }

    public int image() {
        keptSlide.become(now);
        keptHistory.become(history);
        kept = true;
        return 1;
    }

    public int restore() {
        if (!kept) {
            return NONE;
        }
        now.become(keptSlide);
        history.become(keptHistory);
        return 1;
    }

    // ---- 3 sheets

    public int clocked(int rider, int turn, int sheet, int lane, int i, int n, int what) {
        if (!now.hasRider(rider) || !isTurn(turn) || !within(n, 1, TURNS - turn)
                || !isSheet(sheet) || !isLane(lane) || !within(what, 0, 1)) {
            return BAD;
        }
        Sheet row = sheets[sheet];
        int refusal = row.refusal(lane, i, n);
        if (refusal != FINE) {
            return refusal;
        }
        return what == 0 ? kindsClocked(rider, turn, row, i, n) : heaviesClocked(rider, turn, row, i, n);
    }

    private int kindsClocked(int rider, int turn, Sheet row, int i, int n) {
        trial.become(now);
        int set = 0;
        for (int kind = 0; kind < KINDS; kind++) {
            trial.kind[rider] = kind;
            trial.foretell(rider, speeds);
            if (row.tells(i, speeds, turn, n)) {
                set |= 1 << kind;
            }
        }
        return set;
    }

    private int heaviesClocked(int rider, int turn, Sheet row, int i, int n) {
        trial.become(now);
        int set = 0;
        for (int heavy = 1; heavy <= MOST_HEAVY; heavy++) {
            trial.heavy[rider] = heavy;
            trial.foretell(rider, speeds);
            if (row.tells(i, speeds, turn, n)) {
                set |= 1 << heavy;
            }
        }
        return set;
    }

    public int film(int rider, int n, int sheet, int lane, int i) {
        if (!now.hasRider(rider) || !within(n, 1, TURNS) || !isSheet(sheet) || !isLane(lane)) {
            return BAD;
        }
        Sheet row = sheets[sheet];
        int refusal = row.refusal(lane, i, n);
        if (refusal != FINE) {
            return refusal;
        }
        now.foretell(rider, speeds);
        for (int t = 0; t < n; t++) {
            row.put(i + t, speeds[t]);
        }
        return n;
    }

    public int sheet(int sheet, int lane, int n) {
        if (!isSheet(sheet) || !isLane(lane) || n > Sheet.MOST_ITEMS) {
            return BAD;
        }
        if (n < 0) {
            return SIZE;
        }
        sheets[sheet].begin(lane, n);
        return n;
    }

    public int drop(int sheet) {
        if (!isSheet(sheet)) {
            return BAD;
        }
        Sheet row = sheets[sheet];
        if (row.isNothing()) {
            return NULL;
        }
        int items = row.size;
        row.becomeNothing();
        return items;
    }

    public int item(int sheet, int lane, int i, long v) {
        if (!isSheet(sheet) || !isLane(lane)) {
            return BAD;
        }
        Sheet row = sheets[sheet];
        int refusal = row.refusal(lane, i, 1);
        if (refusal != FINE) {
            return refusal;
        }
        row.put(i, v);
        return 1;
    }

    public int copy(int from, int i, int to, int j, int n) {
        if (!isSheet(from) || !isSheet(to)) {
            return BAD;
        }
        Sheet source = sheets[from];
        Sheet target = sheets[to];
        if (source.isNothing() || target.isNothing()) {
            return NULL;
        }
        if (source.lane != target.lane) {
            return CAST;
        }
        if (!source.holds(i, n) || !target.holds(j, n)) {
            return INDEX;
        }
        System.arraycopy(source.items, i, target.items, j, n);
        return n;
    }

    // ---- what is as told

    private static boolean within(int v, int least, int most) {
        return v >= least && v <= most;
    }

    private static boolean isTurn(int turn) {
        return within(turn, 0, TURNS - 1);
    }

    private static boolean isOutcome(int end) {
        return within(end, 0, OUTCOMES - 1);
    }

    private static boolean isSheet(int sheet) {
        return within(sheet, 0, SHEETS - 1);
    }

    private static boolean isLane(int lane) {
        return within(lane, 0, LANES - 1);
    }

    // ---- rows

    private static int sum(int[] row) {
        int all = 0;
        for (int i = 0; i < row.length; i++) {
            all += row[i];
        }
        return all;
    }

    private static int firstOfGreatest(int[] row) {
        int first = 0;
        for (int i = 1; i < row.length; i++) {
            if (row[i] > row[first]) {
                first = i;
            }
        }
        return first;
    }

    private static void copyRow(int[] from, int[] to) {
        System.arraycopy(from, 0, to, 0, Math.min(from.length, to.length));
    }

    /** Turns and riders with all that a ride changes; the one in use, a trial's, an image's and those to go back to. */
    private static final class Slide {
        final int[] rough = new int[TURNS];
        final int[] bump = new int[TURNS];
        final int[] kind = new int[RIDERS];
        final int[] heavy = new int[RIDERS];
        final int[] lean = new int[RIDERS];
        final int[] place = new int[RIDERS];
        int riders = 0;
        int rides = 0;
        int draw = 1;

        Slide() {
            Arrays.fill(rough, 1);
        }

        boolean hasRider(int r) {
            return within(r, 0, riders - 1);
        }

        int addRider(int newKind, int newHeavy, int newLean) {
            int r = riders;
            if (!within(r, 0, RIDERS - 1)) {
                return FULL;
            }
            kind[r] = newKind;
            heavy[r] = newHeavy;
            lean[r] = newLean;
            place[r] = TOP;
            riders = r + 1;
            return r;
        }

        int stuckOn(int turn) {
            for (int r = 0; r < riders; r++) {
                if (place[r] == STUCK + turn) {
                    return r;
                }
            }
            return NONE;
        }

        int ridersAtTop() {
            int set = 0;
            for (int r = 0; r < riders; r++) {
                if (place[r] == TOP) {
                    set |= 1 << r;
                }
            }
            return set;
        }

        int ridersThrough() {
            int set = 0;
            for (int r = 0; r < riders; r++) {
                if (isOutcome(place[r])) {
                    set |= 1 << r;
                }
            }
            return set;
        }

        int turnsTaken() {
            int set = 0;
            for (int t = 0; t < TURNS; t++) {
                if (stuckOn(t) != NONE) {
                    set |= 1 << t;
                }
            }
            return set;
        }

        int gained(int r, int turn, int speed) {
            int asStout = PLAIN_GAIN + heavy[r] / 5;
            int asClerk = speed >= CLERK_SPEED ? PLAIN_GAIN - CLERK_LOSS : PLAIN_GAIN;
            switch (kind[r]) {
                case STOUT: return asStout;
                case CLERK: return asClerk;
                case STANDER: return turn % 2 == 0 ? asStout : asStout / 2;
                case KING: return asClerk + 2 * bump[turn];
                default: return PLAIN_GAIN;
            }
        }

        /** How rough the turn is comes as an argument, since rain makes it another than it is. */
        int speedBehind(int turn, int r, int speed, int roughness) {
            int next = Math.min(MOST_SPEED, speed + gained(r, turn, speed) - roughness - bump[turn]);
            int other = stuckOn(turn);
            boolean inTheWay = other != NONE && other != r;
            return inTheWay && next > 0 ? next / 2 : next;
        }

        /** The speed behind each turn comes into the row (NONE: not so far); the answer is where the ride ends. */
        int foretell(int r, int[] speeds) {
            Arrays.fill(speeds, NONE);
            int speed = FIRST_SPEED;
            for (int t = 0; t < TURNS; t++) {
                speed = speedBehind(t, r, speed, rough[t]);
                if (speed <= 0) {
                    return STUCK + t;
                }
                speeds[t] = speed;
            }
            return (speed + lean[r]) % OUTCOMES;
        }

        int sendDown(int r, int[] speeds) {
            int end = foretell(r, speeds);
            boolean sliding = true;
            for (int t = 0; t < TURNS && sliding; t++) {
                liftFrom(t);
                sliding = speeds[t] != NONE;
                if (sliding) {
                    rough[t] = Math.max(0, rough[t] - 1);
                }
            }
            place[r] = end;
            rides++;
            return end;
        }

        private void liftFrom(int turn) {
            int r = stuckOn(turn);
            if (r != NONE) {
                place[r] = TOP;
            }
        }

        void driftOnce(int[] speeds) {
            draw = (draw * 1103515245 + 12345) & LOWEST_31_BITS;
            if (riders > 0) {
                int r = draw / 65536 % riders;
                if (place[r] == TOP) {
                    sendDown(r, speeds);
                } else {
                    place[r] = TOP;
                }
            }
            int turn = draw / 128 % TURNS;
            rough[turn] = Math.min(MOST_ROUGH, rough[turn] + 1);
        }

        /** Kinds, weights and leans stay: what was told of them since is not taken back. */
        void goBackTo(Slide past) {
            copyRow(past.rough, rough);
            copyRow(past.bump, bump);
            copyRow(past.place, place);
            rides = past.rides;
            draw = past.draw;
        }

        void become(Slide other) {
            goBackTo(other);
            copyRow(other.kind, kind);
            copyRow(other.heavy, heavy);
            copyRow(other.lean, lean);
            riders = other.riders;
        }
    }

    /** What may be undone, the latest last. */
    private static final class History {
        final Slide[] pasts = new Slide[8];
        int known = 0;

        History() {
            for (int i = 0; i < pasts.length; i++) {
                pasts[i] = new Slide();
            }
        }

        void forgetAll() {
            known = 0;
        }

        void remember(Slide slide) {
            if (known >= pasts.length) {
                forgetOldest();
            }
            pasts[known].become(slide);
            known++;
        }

        /** The oldest one's object goes to the other end, to be written anew. */
        private void forgetOldest() {
            Slide oldest = pasts[0];
            for (int i = 1; i < pasts.length; i++) {
                pasts[i - 1] = pasts[i];
            }
            pasts[pasts.length - 1] = oldest;
            known = pasts.length - 1;
        }

        boolean takeBack(Slide slide) {
            if (known <= 0) {
                return false;
            }
            known--;
            slide.goBackTo(pasts[known]);
            return true;
        }

        void become(History other) {
            known = other.known;
            for (int i = 0; i < known; i++) {
                pasts[i].become(other.pasts[i]);
            }
        }
    }

    /** Letters typed, and the reading of them as a slide: place is then where it went on no more. */
    private static final class Tape {
        static final int BLANK = ' ', LAST_LETTER = '~';
        private static final int END = -1;

        final int[] letters = new int[70];
        int length = 0;
        int place = 0;

        int append(int letter) {
            if (length >= letters.length) {
                return FULL;
            }
            letters[length] = letter;
            length++;
            return length;
        }

        void clear() {
            length = 0;
        }

        boolean readSlide(Slide into) {
            place = 0;
            into.riders = 0;
            into.rides = 0;
            return readTurns(into) && readRiders(into) && nextLetter() == END;
        }

        private boolean readTurns(Slide into) {
            for (int t = 0; t < TURNS; t++) {
                int rough = readDigit('0', '9');
                if (rough == NONE) {
                    return false;
                }
                int bump = 0;
                if (nextLetter() == '^') {
                    place++;
                    bump = readDigit('1', '9');
                }
                if (bump == NONE) {
                    return false;
                }
                into.rough[t] = rough;
                into.bump[t] = bump;
            }
            return true;
        }

        /** Perhaps there are none: then what should be ahead of the first one is not there. */
        private boolean readRiders(Slide into) {
            for (int r = 0; r < RIDERS && nextLetter() == (r == 0 ? ';' : ','); r++) {
                place++;
                if (!readRider(into)) {
                    return false;
                }
            }
            return true;
        }

        private boolean readRider(Slide into) {
            int kind = kindOf(nextLetter());
            if (kind == NONE) {
                return false;
            }
            place++;
            int heavy = readHeavy();
            if (heavy == NONE) {
                return false;
            }
            int lean = 0;
            if (nextLetter() == '<') {
                place++;
                lean = readDigit('0', '7');
            }
            return lean != NONE && into.addRider(kind, heavy, lean) != FULL;
        }

        private static int kindOf(int letter) {
            switch (letter) {
                case 'p': return PLAIN;
                case 's': return STOUT;
                case 'c': return CLERK;
                case 'n': return STANDER;
                case 'k': return KING;
                default: return NONE;
            }
        }

        private int readHeavy() {
            skipBlanks();
            int first = place;
            int heavy = 0;
            // Blanks are skipped ahead of the number alone, for they end it.
            for (int digits = 0; digits < 2 && within(letterHere(), '0', '9'); digits++) {
                heavy = 10 * heavy + letterHere() - '0';
                place++;
            }
            if (!within(heavy, 1, MOST_HEAVY)) {
                place = first;
                return NONE;
            }
            return heavy;
        }

        private int readDigit(int least, int most) {
            int letter = nextLetter();
            if (!within(letter, least, most)) {
                return NONE;
            }
            place++;
            return letter - '0';
        }

        private int nextLetter() {
            skipBlanks();
            return letterHere();
        }

        private void skipBlanks() {
            while (place < length && letters[place] == BLANK) {
                place++;
            }
        }

        private int letterHere() {
            return place < length ? letters[place] : END;
        }
    }

    /** An order in which those at the top go. */
    private static final class Order {
        final int[] numbers = new int[RIDERS];
        int size = 0;

        void begin(Slide slide) {
            size = 0;
            for (int r = 0; r < slide.riders && size < numbers.length; r++) {
                if (slide.place[r] == TOP) {
                    numbers[size] = r;
                    size++;
                }
            }
        }

        int numberAt(int k) {
            return within(k, 0, size - 1) ? numbers[k] : NONE;
        }

        void become(Order other) {
            copyRow(other.numbers, numbers);
            size = other.size;
        }

        /** To the next order by rising numbers: the shortest end that can grow grows by least. */
        boolean advance() {
            for (int i = size - 2; i >= 0; i--) {
                if (numbers[i] < numbers[i + 1]) {
                    swap(i, lastAbove(i));
                    turnRound(i + 1);
                    return true;
                }
            }
            return false;
        }

        private int lastAbove(int i) {
            int last = i + 1;
            for (int j = i + 2; j < size; j++) {
                if (numbers[j] > numbers[i]) {
                    last = j;
                }
            }
            return last;
        }

        private void turnRound(int from) {
            int to = size - 1;
            for (int i = from; i < to; i++) {
                swap(i, to);
                to--;
            }
        }

        private void swap(int i, int j) {
            int n = numbers[i];
            numbers[i] = numbers[j];
            numbers[j] = n;
        }
    }

    /** Counts ways by the speed they lead to: all 1024 rains of ten turns are then some thirty speeds a turn. */
    private static final class Rain {
        static final int CERTAIN = 10;
        static final long ALL_WAYS = 10000000000L;
        private static final int ROUGHER = 2;

        final long[] ways = new long[MOST_SPEED + 1];
        final long[] waysBehind = new long[MOST_SPEED + 1];

        long waysThrough(Slide slide, int r, int c) {
            Arrays.fill(ways, 0L);
            ways[FIRST_SPEED] = 1L;
            for (int t = 0; t < TURNS; t++) {
                passTurn(slide, r, c, t);
            }
            long through = 0L;
            for (int speed = 1; speed < ways.length; speed++) {
                through += ways[speed];
            }
            return through;
        }

        private void passTurn(Slide slide, int r, int c, int turn) {
            Arrays.fill(waysBehind, 0L);
            int dry = slide.rough[turn];
            int wet = Math.min(MOST_ROUGH, dry + ROUGHER);
            for (int speed = 1; speed < ways.length; speed++) {
                if (ways[speed] > 0L) {
                    addWays(slide.speedBehind(turn, r, speed, dry), ways[speed] * (CERTAIN - c));
                    addWays(slide.speedBehind(turn, r, speed, wet), ways[speed] * c);
                }
            }
            System.arraycopy(waysBehind, 0, ways, 0, ways.length);
        }

        private void addWays(int speed, long more) {
            if (within(speed, 1, MOST_SPEED)) {
                waysBehind[speed] += more;
            }
        }
    }

    /** Items are held as longs, cut to their lane when they come in. */
    private static final class Sheet {
        static final int MOST_ITEMS = 24;
        private static final int NO_LANE = -1, BYTES = 0, SHORTS = 1, INTS = 2;

        final long[] items = new long[MOST_ITEMS];
        int lane = NO_LANE;
        int size = 0;

        void begin(int newLane, int newSize) {
            Arrays.fill(items, 0L);
            lane = newLane;
            size = newSize;
        }

        void becomeNothing() {
            lane = NO_LANE;
            size = 0;
        }

        boolean isNothing() {
            return lane == NO_LANE;
        }

        boolean holds(int i, int n) {
            return within(i, 0, size) && within(n, 0, size - i);
        }

        int refusal(int asLane, int i, int n) {
            if (isNothing()) {
                return NULL;
            }
            if (lane != asLane) {
                return CAST;
            }
            return holds(i, n) ? FINE : INDEX;
        }

        void put(int i, long v) {
            if (within(i, 0, size - 1)) {
                items[i] = cut(v);
            }
        }

        private long cut(long v) {
            switch (lane) {
                case BYTES: return (byte) v;
                case SHORTS: return (short) v;
                case INTS: return (int) v;
                default: return v;
            }
        }

        boolean tells(int i, int[] speeds, int turn, int n) {
            for (int k = 0; k < n; k++) {
                if (items[i + k] != speeds[turn + k]) {
                    return false;
                }
            }
            return true;
        }
    }
}
