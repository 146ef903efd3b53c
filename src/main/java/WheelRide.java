/**
 * A Ferris wheel: parties that wait, ride and get off, what is foretold of them, and what is asked of them.
 * The words of the document (PARTY, GONDOLA, PLACE, PULL, LEAN, STEP, ACT ..) are used here as it uses them.
 */
public final class WheelRide {
    public static final int NONE = -1000000, BAD = -1000001, STATE = -1000002, FULL = -1000003;

    private static final int FINDING = -1000010, NULL = 1, PLACE = 2, KIND = 3, SIZE = 4, STORE = 5;
    private static final int FAULTY = -1000100;
    private static final int MOST_ROWS = 8, MOST_LANES = 3, MOST_ITEMS = 40, MOST_BYTES = 100;
    private static final int LEAST_GONDOLAS = 4, MOST_GONDOLAS = 12, MOST_PARTIES = 6;
    private static final int MOST_LIMIT = 99, MOST_WEIGHT = 9, MOST_ROUNDS = 4, MOST_BALLAST = 9, MOST_RIDDEN = 99;
    private static final int MOST_ACTS = 24, MOST_STEP = 999, MOST_IMAGES = 2, MOST_TRACE = 16;
    private static final int FAR = 60, NEAR = 40, MOST_TOLD = 12, MOST_TURNS = 4, MOST_TURN_STEPS = 20;
    private static final int MOST_SET = 54, MOST_FARE = 999, MOST_SEED = 999999;
    private static final int WAITS = 0, ABOARD = 1, OFF = 2, GONE = 3;
    private static final int ANY_PARTY = 0, FAMILY = 1, LOVERS = 2, GIDDY = 3, SOLITARY = 4, CRITIC = 5;
    private static final int SOLITARY_PATIENCE = 5, CRITIC_PATIENCE = 2;

    private static final int[] BY_NUMBERS = {0, 1, 2, 3, 4, 5};

    private final Rows rows = new Rows();
    private final Tape tape = new Tape();
    private final Wheel now = new Wheel();
    private final Wheel trial = new Wheel();
    private final Acts acts = new Acts();
    private final Images images = new Images();
    private final Foretold foretold = new Foretold(now, trial);
    private final Planner planner = new Planner(now, trial);
    private final Guesser guesser = new Guesser(now, trial);
    private final Chances chances = new Chances(now, trial);
    private final Asks asks = new Asks(now);
    private int latestFault;
    private int finding;

    public WheelRide() {
    }

    // ---- rows

    public int row(int row, int lane, int n) {
        if (!isRow(row) || lane < 0 || lane >= MOST_LANES || n > MOST_ITEMS) {
            return BAD;
        }
        if (n < 0) {
            return found(SIZE);
        }
        rows.make(row, lane, n);
        return well(n);
    }

    public int set(int row, int i, int v) {
        if (!isRow(row)) {
            return BAD;
        }
        if (rows.isMissing(row)) {
            return found(NULL);
        }
        if (!rows.hasPlaces(row, i, 1)) {
            return found(PLACE);
        }
        return well(rows.put(row, i, v));
    }

    public int copy(int a, int i, int b, int j, int n) {
        if (!isRow(a) || !isRow(b)) {
            return BAD;
        }
        if (rows.isMissing(a) || rows.isMissing(b)) {
            return found(NULL);
        }
        if (!rows.haveOneLane(a, b)) {
            return found(STORE);
        }
        if (!rows.hasPlaces(a, i, n) || !rows.hasPlaces(b, j, n)) {
            return found(PLACE);
        }
        rows.move(a, i, b, j, n);
        return well(n);
    }

    public int drop(int row) {
        if (!isRow(row)) {
            return BAD;
        }
        if (rows.isMissing(row)) {
            return found(NULL);
        }
        return well(rows.lose(row));
    }

    // ---- what is told

    public int feed(int letter) {
        if (letter < 0 || letter > 255) {
            return BAD;
        }
        if (tape.length >= MOST_BYTES) {
            return FULL;
        }
        return tape.append(letter);
    }

    public int wheel() {
        int fault = tape.readInto(trial);
        tape.clear();
        if (fault != 0) {
            latestFault = fault;
            return FAULTY - tape.at;
        }
        now.takeFrom(trial);
        acts.forget();
        planner.forget();
        return now.parties;
    }

    public int fault() {
        return latestFault;
    }

    public int undo() {
        if (acts.kept == 0) {
            return STATE;
        }
        acts.takeBack(now);
        planner.forget();
        return acts.kept;
    }

    // ---- what is done

    public int steps(int n) {
        if (!now.stands()) {
            return STATE;
        }
        if (isOutside(n, 1, MOST_ACTS)) {
            return BAD;
        }
        if (now.step + n > MOST_STEP) {
            return FULL;
        }
        for (int i = 0; i < n; i++) {
            keepForUndo();
            now.makeStep(BY_NUMBERS);
        }
        return now.whichAre(OFF);
    }

    public int turnTo(int gondola) {
        if (!now.hasGondola(gondola)) {
            return BAD;
        }
        if (gondola == now.bottom) {
            return STATE;
        }
        keepForUndo();
        int was = now.bottom;
        now.bottom = gondola;
        return was;
    }

    public int ballast(int gondola, int v) {
        if (!now.hasGondola(gondola) || isOutside(v, 0, MOST_BALLAST)) {
            return BAD;
        }
        keepForUndo();
        int was = now.ballast[gondola];
        now.ballast[gondola] = v;
        return was;
    }

    public int limit(int v) {
        if (!now.stands()) {
            return STATE;
        }
        if (isOutside(v, 1, MOST_LIMIT)) {
            return BAD;
        }
        keepForUndo();
        int was = now.limit;
        now.limit = v;
        return was;
    }

    public int again(int party) {
        if (!now.hasParty(party)) {
            return BAD;
        }
        if (!now.hasLeft(party)) {
            return STATE;
        }
        keepForUndo();
        now.comeAgain(party);
        return now.whichAre(WAITS);
    }

    public int party(int party, int what) {
        if (!now.hasParty(party)) {
            return BAD;
        }
        switch (what) {
            case 0: return now.how[party];
            case 1: return now.seatOf(party);
            case 2: return now.weights[party];
            case 3: return now.rounds[party];
            case 4: return now.ridden[party];
            case 5: return now.waited[party];
            default: return BAD;
        }
    }

    public int gondola(int gondola, int what) {
        if (!now.hasGondola(gondola)) {
            return BAD;
        }
        switch (what) {
            case 0: return now.placeOf(gondola);
            case 1: return now.pullOf(now.placeOf(gondola));
            case 2: return now.ballast[gondola];
            case 3: return now.partyIn(gondola);
            default: return BAD;
        }
    }

    public int stand(int what) {
        if (!now.stands()) {
            return STATE;
        }
        switch (what) {
            case 0: return now.gondolas;
            case 1: return now.bottom;
            case 2: return now.limit;
            case 3: return now.leanWith(now.bottom);
            case 4: return now.isInBalanceBy(now.leanWith(now.bottom)) ? 1 : 0;
            case 5: return now.whichAre(WAITS);
            case 6: return now.whichAre(ABOARD);
            case 7: return now.whichAre(OFF);
            case 8: return now.whichAre(GONE);
            default: return BAD;
        }
    }

    // ---- foretold

    public int ahead(int party, int n, int what) {
        if (!now.hasParty(party) || isOutside(n, 0, FAR) || isOutside(what, 0, 3)) {
            return BAD;
        }
        foretold.goOn(n);
        switch (what) {
            case 0: return trial.how[party];
            case 1: return trial.seatOf(party);
            case 2: return trial.ridden[party];
            default: return trial.waited[party];
        }
    }

    public int leans(int n) {
        if (!now.stands()) {
            return STATE;
        }
        if (isOutside(n, 0, FAR)) {
            return BAD;
        }
        foretold.goOn(n);
        return trial.leanWith(trial.bottom);
    }

    public int when(int party, int how) {
        if (!now.hasParty(party) || isOutside(how, ABOARD, GONE)) {
            return BAD;
        }
        return foretold.whenIs(party, how);
    }

    public int first(int what) {
        if (!now.stands()) {
            return STATE;
        }
        if (isOutside(what, 0, 1)) {
            return BAD;
        }
        return what == 0 ? foretold.firstStuck() : foretold.whenOver();
    }

    public int order(int n, int k) {
        if (!now.stands()) {
            return STATE;
        }
        if (isOutside(n, 1, NEAR) || k < -1) {
            return BAD;
        }
        planner.findOrder(n);
        if (k == -1) {
            return planner.mostOff;
        }
        return now.hasParty(k) ? planner.bestRank[k] : NONE;
    }

    public int load(int n, int what) {
        if (!now.stands()) {
            return STATE;
        }
        if (isOutside(n, 1, NEAR) || isOutside(what, 0, 1)) {
            return BAD;
        }
        planner.findLoad(n);
        return what == 0 ? planner.bestLoad : planner.leastStuck;
    }

    public int bear(int n) {
        if (!now.stands()) {
            return STATE;
        }
        if (isOutside(n, 1, NEAR)) {
            return BAD;
        }
        return planner.leastLimit(n);
    }

    public int sets(int v, int what) {
        if (!now.stands()) {
            return STATE;
        }
        if (isOutside(v, 0, MOST_SET) || isOutside(what, 0, 2)) {
            return BAD;
        }
        return Sums.ofSets(now, v, what);
    }

    public int share(int party, int n) {
        if (!now.hasParty(party) || isOutside(n, 0, MOST_FARE)) {
            return BAD;
        }
        return Sums.shareOf(now, party, n);
    }

    public int byTurns(int n, int m) {
        if (!now.stands()) {
            return STATE;
        }
        if (isOutside(n, 0, MOST_TURNS) || isOutside(m, 1, MOST_TURN_STEPS)) {
            return BAD;
        }
        return chances.outcome(n, m);
    }

    public int who(int party, int which, int row, int i, int n) {
        if (!now.hasParty(party) || isOutside(which, 0, 4) || !isRow(row) || isOutside(n, 1, MOST_TOLD)) {
            return BAD;
        }
        if (rows.isMissing(row)) {
            return found(NULL);
        }
        if (!rows.hasPlaces(row, i, n)) {
            return found(PLACE);
        }
        return well(guesser.guess(party, which, rows.items[row], i, n));
    }

    public long away(int n, int p, int what) {
        if (!now.stands()) {
            return STATE;
        }
        if (isOutside(n, 0, NEAR) || isOutside(p, 0, 10) || isOutside(what, 0, 1)) {
            return BAD;
        }
        chances.findAway(n, p);
        return what == 0 ? chances.above : chances.below;
    }

    public int drawn(int n, int seed, int what) {
        if (!now.stands()) {
            return STATE;
        }
        if (isOutside(n, 0, FAR) || isOutside(seed, 1, MOST_SEED) || isOutside(what, 0, 1)) {
            return BAD;
        }
        int stuck = chances.liveDays(n, seed);
        return what == 0 ? stuck : trial.riddenOfAll();
    }

    public int image(int k) {
        if (isOutside(k, 0, MOST_IMAGES - 1)) {
            return BAD;
        }
        if (!now.stands()) {
            return STATE;
        }
        images.keep(k, now);
        return 1;
    }

    public int restore(int k) {
        if (isOutside(k, 0, MOST_IMAGES - 1)) {
            return BAD;
        }
        if (!images.has(k)) {
            return STATE;
        }
        images.giveBack(k, now);
        acts.forget();
        planner.forget();
        return 1;
    }

    // ---- asked

    public int kind(int one) {
        return now.hasParty(one) ? now.kinds[one] : BAD;
    }

    public int as(int one, int kind) {
        if (!now.hasParty(one) || isOutside(kind, ANY_PARTY, CRITIC)) {
            return BAD;
        }
        if (!Asks.isSuch(now.kinds[one], kind)) {
            return found(KIND);
        }
        return well(one);
    }

    public int ask(int one, int what) {
        if (!now.hasParty(one) || isOutside(what, 0, 1)) {
            return BAD;
        }
        return asks.begin(one, what);
    }

    public int trace(int i) {
        return i >= 0 && i < asks.traced && i < MOST_TRACE ? asks.bodies[i] : NONE;
    }

    public int count(int what) {
        switch (what) {
            case 0: return rows.howMany();
            case 1: return now.parties;
            case 2: return now.gondolas;
            case 3: return now.step;
            case 4: return now.ballastOfAll();
            case 5: return now.riddenOfAll();
            case 6: return acts.kept;
            case 7: return tape.length;
            default: return BAD;
        }
    }

    public int status() {
        return finding;
    }

    private int found(int number) {
        finding = number;
        return FINDING - number;
    }

    private int well(int answer) {
        finding = 0;
        return answer;
    }

    private void keepForUndo() {
        acts.keep(now);
        planner.forget();
    }

    private static boolean isRow(int row) {
        return row >= 0 && row < MOST_ROWS;
    }

    private static boolean isOutside(int v, int least, int most) {
        return v < least || v > most;
    }

    /** The ROWS; all room for their ITEMS is made once, so that no call makes any. */
    private static final class Rows {
        private static final int MISSING = -1;

        final int[][] items = new int[MOST_ROWS][MOST_ITEMS];
        final int[] lanes = new int[MOST_ROWS];
        final int[] lengths = {MISSING, MISSING, MISSING, MISSING, MISSING, MISSING, MISSING, MISSING};

        boolean isMissing(int row) {
            return lengths[row] == MISSING;
        }

        boolean haveOneLane(int a, int b) {
            return lanes[a] == lanes[b];
        }

        /** Asked by what is left behind i, since i and n together may be more than an int holds. */
        boolean hasPlaces(int row, int i, int n) {
            return i >= 0 && n >= 0 && i <= lengths[row] && n <= lengths[row] - i;
        }

        void make(int row, int lane, int n) {
            lanes[row] = lane;
            lengths[row] = n;
            for (int i = 0; i < n; i++) {
                items[row][i] = 0;
            }
        }

        int put(int row, int i, int v) {
            int kept = narrowed(lanes[row], v);
            items[row][i] = kept;
            return kept;
        }

        /** An overlap within one ROW is no harm: arraycopy takes the ITEMS as they were ahead. */
        void move(int a, int i, int b, int j, int n) {
            System.arraycopy(items[a], i, items[b], j, n);
        }

        int lose(int row) {
            int had = lengths[row];
            lengths[row] = MISSING;
            return had;
        }

        int howMany() {
            int there = 0;
            for (int row = 0; row < MOST_ROWS; row++) {
                if (!isMissing(row)) {
                    there++;
                }
            }
            return there;
        }

        private static int narrowed(int lane, int v) {
            switch (lane) {
                case 0: return (byte) v;
                case 1: return (short) v;
                default: return v;
            }
        }
    }

    /** THE TAPE, and the reading of it: at is the first byte of the TOKEN looked at, thus the place of a FAULT. */
    private static final class Tape {
        private static final int END = -1, OUT_OF_PLACE = 1, NOT_AS_TOLD = 2, NO_ROOM = 3;

        private final int[] bytes = new int[MOST_BYTES];
        private int fault;
        int length;
        int at;

        int append(int letter) {
            if (length < MOST_BYTES) {
                bytes[length] = letter;
                length++;
            }
            return length;
        }

        void clear() {
            length = 0;
        }

        /** The number of the FAULT; 0, if there is none and the WHEEL is as THE TAPE tells. */
        int readInto(Wheel wheel) {
            at = 0;
            fault = 0;
            readLaw(wheel);
            readParty(wheel);
            for (int more = 0; more < MOST_PARTIES && fault == 0 && at < length; more++) {
                readParty(wheel);
            }
            return fault;
        }

        private void readLaw(Wheel wheel) {
            takeSign('w');
            int gondolas = takeNumber(LEAST_GONDOLAS, MOST_GONDOLAS);
            takeSign(',');
            int limit = takeNumber(1, MOST_LIMIT);
            takeSign(';');
            if (fault == 0) {
                wheel.begin(gondolas, limit);
            }
        }

        private void readParty(Wheel wheel) {
            int kind = takeSort(wheel.parties < MOST_PARTIES);
            int weight = takeNumber(1, MOST_WEIGHT);
            takeSign(',');
            int rounds = takeNumber(1, MOST_ROUNDS);
            takeSign(';');
            if (fault == 0) {
                wheel.addParty(kind, weight, rounds);
            }
        }

        private void takeSign(int sign) {
            if (fault != 0) {
                return;
            }
            if (byteAt(at) == sign) {
                at++;
            } else {
                fault = OUT_OF_PLACE;
            }
        }

        private int takeSort(boolean hasRoom) {
            if (fault != 0) {
                return 0;
            }
            int kind = kindOf(byteAt(at));
            if (kind == 0) {
                fault = OUT_OF_PLACE;
            } else if (!hasRoom) {
                fault = NO_ROOM;
            } else {
                at++;
            }
            return kind;
        }

        private int takeNumber(int least, int most) {
            if (fault != 0) {
                return 0;
            }
            int figures = 0;
            int number = 0;
            while (figures < 3 && isFigure(byteAt(at + figures))) {
                number = number * 10 + byteAt(at + figures) - '0';
                figures++;
            }
            if (figures == 0 || figures == 3) {
                fault = OUT_OF_PLACE;
            } else if (isOutside(number, least, most)) {
                fault = NOT_AS_TOLD;
            } else {
                at += figures;
            }
            return number;
        }

        private int byteAt(int i) {
            return i >= 0 && i < length ? bytes[i] : END;
        }

        private static boolean isFigure(int letter) {
            return letter >= '0' && letter <= '9';
        }

        private static int kindOf(int letter) {
            switch (letter) {
                case 'f': return FAMILY;
                case 'l': return LOVERS;
                case 'g': return GIDDY;
                case 's': return SOLITARY;
                case 'c': return CRITIC;
                default: return 0;
            }
        }
    }

    /** A WHEEL with its PARTIES, and the STEP that it makes; with no PARTIES it stands for no WHEEL. */
    private static final class Wheel {
        int gondolas;
        int limit;
        int bottom;
        int step;
        int parties;
        final int[] ballast = new int[MOST_GONDOLAS];
        final int[] kinds = new int[MOST_PARTIES];
        final int[] weights = new int[MOST_PARTIES];
        final int[] rounds = new int[MOST_PARTIES];
        final int[] how = new int[MOST_PARTIES];
        final int[] seats = new int[MOST_PARTIES];
        final int[] ridden = new int[MOST_PARTIES];
        final int[] waited = new int[MOST_PARTIES];

        void begin(int newGondolas, int newLimit) {
            gondolas = newGondolas;
            limit = newLimit;
            bottom = 0;
            step = 0;
            parties = 0;
            for (int g = 0; g < MOST_GONDOLAS; g++) {
                ballast[g] = 0;
            }
        }

        void addParty(int kind, int weight, int meant) {
            if (parties < 0 || parties >= MOST_PARTIES) {
                return;
            }
            kinds[parties] = kind;
            weights[parties] = weight;
            rounds[parties] = meant;
            parties++;
            comeAgain(parties - 1);
        }

        void takeFrom(Wheel other) {
            gondolas = other.gondolas;
            limit = other.limit;
            bottom = other.bottom;
            step = other.step;
            parties = other.parties;
            System.arraycopy(other.ballast, 0, ballast, 0, MOST_GONDOLAS);
            System.arraycopy(other.kinds, 0, kinds, 0, MOST_PARTIES);
            System.arraycopy(other.weights, 0, weights, 0, MOST_PARTIES);
            System.arraycopy(other.rounds, 0, rounds, 0, MOST_PARTIES);
            System.arraycopy(other.how, 0, how, 0, MOST_PARTIES);
            System.arraycopy(other.seats, 0, seats, 0, MOST_PARTIES);
            System.arraycopy(other.ridden, 0, ridden, 0, MOST_PARTIES);
            System.arraycopy(other.waited, 0, waited, 0, MOST_PARTIES);
        }

        boolean stands() {
            return parties > 0;
        }

        boolean hasParty(int p) {
            return p >= 0 && p < parties;
        }

        boolean hasGondola(int g) {
            return g >= 0 && g < gondolas;
        }

        boolean hasLeft(int p) {
            return how[p] == OFF || how[p] == GONE;
        }

        int seatOf(int p) {
            return how[p] == ABOARD ? seats[p] : NONE;
        }

        int partyIn(int g) {
            for (int p = 0; p < parties; p++) {
                if (how[p] == ABOARD && seats[p] == g) {
                    return p;
                }
            }
            return NONE;
        }

        int whichAre(int so) {
            int bits = 0;
            for (int p = 0; p < parties; p++) {
                if (how[p] == so) {
                    bits |= 1 << p;
                }
            }
            return bits;
        }

        int riddenOfAll() {
            int sum = 0;
            for (int p = 0; p < parties; p++) {
                sum += ridden[p];
            }
            return sum;
        }

        int ballastOfAll() {
            int sum = 0;
            for (int g = 0; g < gondolas; g++) {
                sum += ballast[g];
            }
            return sum;
        }

        int placeOf(int g) {
            return placeFrom(g, bottom);
        }

        private int placeFrom(int g, int low) {
            return g >= low ? g - low : g - low + gondolas;
        }

        /** On the far side 0 less PULL of n less p is (n less p) times (n less 2 p), since both signs turn. */
        int pullOf(int place) {
            int near = 2 * place <= gondolas ? place : gondolas - place;
            return near * (gondolas - 2 * place);
        }

        /** LEAN, if the GONDOLA low were at THE BOTTOM. */
        int leanWith(int low) {
            int lean = 0;
            for (int g = 0; g < gondolas; g++) {
                if (ballast[g] != 0) {
                    lean += ballast[g] * pullOf(placeFrom(g, low));
                }
            }
            for (int p = 0; p < parties; p++) {
                if (how[p] == ABOARD) {
                    lean += weights[p] * pullOf(placeFrom(seats[p], low));
                }
            }
            return lean;
        }

        boolean isInBalanceBy(int lean) {
            return Math.abs(lean) <= 10 * limit;
        }

        int nextOfBottom() {
            return bottom + 1 < gondolas ? bottom + 1 : 0;
        }

        void comeAgain(int p) {
            how[p] = WAITS;
            ridden[p] = 0;
            waited[p] = 0;
        }

        /** One STEP; whether it turned. */
        boolean makeStep(int[] rank) {
            letOff();
            letIn(rank);
            waitOn();
            step++;
            return turn();
        }

        private void letOff() {
            int p = partyIn(bottom);
            if (p != NONE && isDone(p)) {
                how[p] = OFF;
            }
        }

        private boolean isDone(int p) {
            boolean hasRidden = ridden[p] >= rounds[p];
            switch (kinds[p]) {
                case LOVERS: return hasRidden && whichAre(WAITS) != 0;
                case GIDDY: return ridden[p] >= 1;
                case CRITIC: return hasRidden || ridden[p] >= 1 && Math.abs(leanWith(bottom)) >= 5 * limit;
                default: return hasRidden;
            }
        }

        private void letIn(int[] rank) {
            if (partyIn(bottom) != NONE) {
                return;
            }
            for (int i = 0; i < rank.length; i++) {
                int p = rank[i];
                if (hasParty(p) && how[p] == WAITS) {
                    how[p] = ABOARD;
                    seats[p] = bottom;
                    ridden[p] = 0;
                    return;
                }
            }
        }

        private void waitOn() {
            for (int p = 0; p < parties; p++) {
                if (how[p] == WAITS) {
                    waited[p]++;
                    if (hasLostPatience(p)) {
                        how[p] = GONE;
                    }
                }
            }
        }

        private boolean hasLostPatience(int p) {
            switch (kinds[p]) {
                case SOLITARY: return waited[p] >= SOLITARY_PATIENCE;
                case CRITIC: return waited[p] >= CRITIC_PATIENCE;
                default: return false;
            }
        }

        private boolean turn() {
            int next = nextOfBottom();
            if (!isInBalanceBy(leanWith(next))) {
                return false;
            }
            bottom = next;
            int p = partyIn(next);
            if (p != NONE && ridden[p] < MOST_RIDDEN) {
                ridden[p]++;
            }
            return true;
        }

        /** How often it STICKS in n STEPS; no more are counted than are enough. */
        int sticksIn(int n, int enough) {
            int stuck = 0;
            for (int i = 0; i < n && stuck < enough; i++) {
                if (!makeStep(BY_NUMBERS)) {
                    stuck++;
                }
            }
            return stuck;
        }
    }

    /** What the WHEEL was ahead of each ACT that can be undone, in a ring. */
    private static final class Acts {
        private final Wheel[] past = new Wheel[MOST_ACTS];
        private int next;
        int kept;

        Acts() {
            for (int i = 0; i < MOST_ACTS; i++) {
                past[i] = new Wheel();
            }
        }

        void keep(Wheel wheel) {
            past[next].takeFrom(wheel);
            next = next + 1 < MOST_ACTS ? next + 1 : 0;
            if (kept < MOST_ACTS) {
                kept++;
            }
        }

        void takeBack(Wheel wheel) {
            if (kept == 0) {
                return;
            }
            next = next > 0 ? next - 1 : MOST_ACTS - 1;
            wheel.takeFrom(past[next]);
            kept--;
        }

        void forget() {
            kept = 0;
        }
    }

    /** The IMAGES; one that stands for no WHEEL was not kept. */
    private static final class Images {
        private final Wheel[] kept = {new Wheel(), new Wheel()};

        boolean has(int k) {
            return kept[k].stands();
        }

        void keep(int k, Wheel wheel) {
            kept[k].takeFrom(wheel);
        }

        void giveBack(int k, Wheel wheel) {
            wheel.takeFrom(kept[k]);
        }
    }

    /** What comes, if nothing is done but STEPS; tried on a WHEEL of its own. */
    private static final class Foretold {
        private final Wheel now;
        private final Wheel trial;

        Foretold(Wheel now, Wheel trial) {
            this.now = now;
            this.trial = trial;
        }

        void goOn(int n) {
            trial.takeFrom(now);
            for (int i = 0; i < n; i++) {
                trial.makeStep(BY_NUMBERS);
            }
        }

        int whenIs(int p, int so) {
            trial.takeFrom(now);
            for (int behind = 0; behind <= FAR; behind++) {
                if (trial.how[p] == so) {
                    return behind;
                }
                trial.makeStep(BY_NUMBERS);
            }
            return NONE;
        }

        int firstStuck() {
            trial.takeFrom(now);
            for (int i = 1; i <= FAR; i++) {
                if (!trial.makeStep(BY_NUMBERS)) {
                    return i;
                }
            }
            return NONE;
        }

        int whenOver() {
            trial.takeFrom(now);
            for (int behind = 0; behind <= FAR; behind++) {
                if (trial.whichAre(WAITS) == 0 && trial.whichAre(ABOARD) == 0) {
                    return behind;
                }
                trial.makeStep(BY_NUMBERS);
            }
            return NONE;
        }
    }

    /** ORDER, LOAD and BEAR: all that can be chosen is tried. */
    private static final class Planner {
        private static final int MOST_ORDERS = 720;

        private final Wheel now;
        private final Wheel trial;
        private final int[] rank = new int[MOST_PARTIES];
        private int orderedFor;
        private int mostRidden;
        final int[] bestRank = new int[MOST_PARTIES];
        int mostOff;
        int bestLoad;
        int leastStuck;

        Planner(Wheel now, Wheel trial) {
            this.now = now;
            this.trial = trial;
        }

        /** The WHEEL has changed: the ORDER that was found is none any more. */
        void forget() {
            orderedFor = 0;
        }

        /** An ORDER is asked for PARTY by PARTY, so the one found last is kept until the WHEEL changes. */
        void findOrder(int n) {
            if (orderedFor == n) {
                return;
            }
            orderedFor = n;
            mostOff = -1;
            mostRidden = -1;
            System.arraycopy(BY_NUMBERS, 0, rank, 0, MOST_PARTIES);
            boolean more = true;
            for (int i = 0; i < MOST_ORDERS && more; i++) {
                if (isFirstOfItsLike()) {
                    tryRank(n);
                }
                more = nextRank();
            }
        }

        /**
         * Only the PARTIES that WAIT now are ever picked by RANK. So if one that doesn't stands beside a lesser
         * one behind it, or behind a greater one, the two can be swapped to an earlier order that comes to the same.
         */
        private boolean isFirstOfItsLike() {
            for (int i = 0; i + 1 < now.parties; i++) {
                int a = rank[i];
                int b = rank[i + 1];
                if (a > b && (now.how[a] != WAITS || now.how[b] != WAITS)) {
                    return false;
                }
            }
            return true;
        }

        private void tryRank(int n) {
            trial.takeFrom(now);
            for (int i = 0; i < n; i++) {
                trial.makeStep(rank);
            }
            int off = Integer.bitCount(trial.whichAre(OFF));
            int ridden = trial.riddenOfAll();
            if (off > mostOff || off == mostOff && ridden > mostRidden) {
                mostOff = off;
                mostRidden = ridden;
                System.arraycopy(rank, 0, bestRank, 0, MOST_PARTIES);
            }
        }

        /** The order behind this one, by numbers; false if this is the last one. */
        private boolean nextRank() {
            int last = now.parties - 1;
            int i = last - 1;
            while (i >= 0 && rank[i] > rank[i + 1]) {
                i--;
            }
            if (i < 0) {
                return false;
            }
            int j = last;
            while (j > i && rank[j] < rank[i]) {
                j--;
            }
            swap(i, j);
            for (int a = i + 1, b = last; a < b; a++, b--) {
                swap(a, b);
            }
            return true;
        }

        private void swap(int i, int j) {
            int kept = rank[i];
            rank[i] = rank[j];
            rank[j] = kept;
        }

        void findLoad(int n) {
            bestLoad = NONE;
            leastStuck = n + 1;
            for (int g = 0; g < now.gondolas; g++) {
                for (int v = 1; v <= MOST_BALLAST; v++) {
                    trial.takeFrom(now);
                    trial.ballast[g] = v;
                    int stuck = trial.sticksIn(n, leastStuck);
                    if (stuck < leastStuck) {
                        leastStuck = stuck;
                        bestLoad = 10 * g + v;
                    }
                }
            }
        }

        /** A greater LIMIT may be worse, since critics get off by it: so every LIMIT is tried. */
        int leastLimit(int n) {
            for (int v = 1; v <= MOST_LIMIT; v++) {
                trial.takeFrom(now);
                trial.limit = v;
                if (trial.sticksIn(n, 1) == 0) {
                    return v;
                }
            }
            return NONE;
        }
    }

    /** What a PARTY, or LIMIT, may be by the LEANS that a row tells. */
    private static final class Guesser {
        private static final int KINDS = 0, WEIGHTS = 1, MEANT_ROUNDS = 2, LIMITS = 3;

        private final Wheel now;
        private final Wheel trial;

        Guesser(Wheel now, Wheel trial) {
            this.now = now;
            this.trial = trial;
        }

        int guess(int p, int which, int[] told, int from, int n) {
            int bits = 0;
            int fitting = 0;
            int least = NONE;
            for (int v = 1; v <= mostOf(which); v++) {
                trial.takeFrom(now);
                suppose(p, which, v);
                if (leansAs(told, from, n)) {
                    bits |= 1 << v;
                    fitting++;
                    least = least == NONE ? v : least;
                }
            }
            if (which < LIMITS) {
                return bits;
            }
            return which == LIMITS ? fitting : least;
        }

        private static int mostOf(int which) {
            switch (which) {
                case KINDS: return CRITIC;
                case WEIGHTS: return MOST_WEIGHT;
                case MEANT_ROUNDS: return MOST_ROUNDS;
                default: return MOST_LIMIT;
            }
        }

        private void suppose(int p, int which, int v) {
            switch (which) {
                case KINDS: trial.kinds[p] = v; break;
                case WEIGHTS: trial.weights[p] = v; break;
                case MEANT_ROUNDS: trial.rounds[p] = v; break;
                default: trial.limit = v; break;
            }
        }

        private boolean leansAs(int[] told, int from, int n) {
            for (int i = 0; i < n; i++) {
                trial.makeStep(BY_NUMBERS);
                if (trial.leanWith(trial.bottom) != told[from + i]) {
                    return false;
                }
            }
            return true;
        }
    }

    /** TURNS of two, AWAY, and DAYS. */
    private static final class Chances {
        private static final int MORE_BALLAST = 3, CASES = 10;
        private static final long FACTOR = 16807, MODULUS = 2147483647;

        private final Wheel now;
        private final Wheel trial;
        private final int[] outcomes = new int[1 << MOST_TURNS];
        long above;
        long below;

        Chances(Wheel now, Wheel trial) {
            this.now = now;
            this.trial = trial;
        }

        /** Bits of a line tell who does something, the first turn highest: so the last turn's two ends lie together. */
        int outcome(int n, int m) {
            for (int line = 0; line < 1 << n; line++) {
                outcomes[line] = riddenBy(line, n, m);
            }
            for (int turn = n - 1; turn >= 0; turn--) {
                for (int line = 0; line < 1 << turn; line++) {
                    int idle = outcomes[2 * line];
                    int done = outcomes[2 * line + 1];
                    outcomes[line] = isOfTheOne(turn) ? Math.max(idle, done) : Math.min(idle, done);
                }
            }
            return outcomes[0];
        }

        private int riddenBy(int line, int n, int m) {
            trial.takeFrom(now);
            for (int turn = 0; turn < n; turn++) {
                if ((line >> (n - 1 - turn) & 1) == 1) {
                    move(turn);
                }
            }
            for (int i = 0; i < m; i++) {
                trial.makeStep(BY_NUMBERS);
            }
            return trial.riddenOfAll();
        }

        private void move(int turn) {
            if (isOfTheOne(turn)) {
                int g = trial.bottom;
                trial.ballast[g] = Math.min(MOST_BALLAST, trial.ballast[g] + MORE_BALLAST);
            } else {
                trial.bottom = trial.nextOfBottom();
            }
        }

        private static boolean isOfTheOne(int turn) {
            return (turn & 1) == 0;
        }

        void findAway(int n, int p) {
            int waiting = now.whichAre(WAITS);
            long good = 0;
            long all = 1;
            for (int i = 0; i < Integer.bitCount(waiting); i++) {
                all *= CASES;
            }
            for (int lost = 0; lost < 1 << MOST_PARTIES; lost++) {
                long cases = (lost & ~waiting) == 0 ? casesOf(lost, waiting, p) : 0;
                if (cases > 0) {
                    tryWithout(lost);
                    good += trial.sticksIn(n, 1) == 0 ? cases : 0;
                }
            }
            long divisor = commonDivisor(all, good);
            above = divisor == 0 ? 0 : good / divisor;
            below = divisor == 0 ? 1 : all / divisor;
        }

        private static long casesOf(int lost, int waiting, int p) {
            long cases = 1;
            for (int i = 0; i < MOST_PARTIES; i++) {
                if ((waiting >> i & 1) == 1) {
                    cases *= (lost >> i & 1) == 1 ? p : CASES - p;
                }
            }
            return cases;
        }

        private void tryWithout(int lost) {
            trial.takeFrom(now);
            for (int i = 0; i < trial.parties; i++) {
                if ((lost >> i & 1) == 1) {
                    trial.how[i] = GONE;
                }
            }
        }

        private static long commonDivisor(long a, long b) {
            long great = a;
            long small = b;
            for (int i = 0; i < 100 && small != 0; i++) {
                long rest = great % small;
                great = small;
                small = rest;
            }
            return great;
        }

        /** How often it STUCK; the trial is then as it is at last. */
        int liveDays(int n, int seed) {
            trial.takeFrom(now);
            long x = seed;
            int stuck = 0;
            for (int i = 0; i < n; i++) {
                x = x * FACTOR % MODULUS;
                happen(x);
                if (!trial.makeStep(BY_NUMBERS)) {
                    stuck++;
                }
            }
            return stuck;
        }

        private void happen(long x) {
            if (trial.parties <= 0 || trial.gondolas <= 0) {
                return;
            }
            int p = (int) (x % trial.parties);
            if (trial.hasLeft(p)) {
                trial.comeAgain(p);
            } else if (x % 4 == 0) {
                trial.ballast[(int) (x % trial.gondolas)] = (int) (x % 10);
            }
        }
    }

    /** SETS and SHARE. */
    private static final class Sums {

        static int ofSets(Wheel wheel, int v, int what) {
            int many = 0;
            int inAll = -1;
            int inAny = 0;
            for (int set = 0; set < 1 << wheel.parties; set++) {
                if (weighs(wheel, set, v)) {
                    many++;
                    inAll &= set;
                    inAny |= set;
                }
            }
            switch (what) {
                case 0: return many;
                case 1: return many == 0 ? 0 : inAll;
                default: return inAny;
            }
        }

        /** Whether all of a set are ABOARD or WAIT, and weigh v together. */
        private static boolean weighs(Wheel wheel, int set, int v) {
            int sum = 0;
            for (int p = 0; p < wheel.parties; p++) {
                if ((set >> p & 1) == 1) {
                    if (wheel.hasLeft(p)) {
                        return false;
                    }
                    sum += wheel.weights[p];
                }
            }
            return sum == v;
        }

        static int shareOf(Wheel wheel, int party, int n) {
            int all = 0;
            for (int p = 0; p < wheel.parties; p++) {
                all += riddenIfOff(wheel, p);
            }
            if (all <= 0 || riddenIfOff(wheel, party) == 0) {
                return 0;
            }
            int over = n;
            int ahead = 0;
            for (int p = 0; p < wheel.parties; p++) {
                int ridden = riddenIfOff(wheel, p);
                over -= n * ridden / all;
                if (ridden > 0 && p < party) {
                    ahead++;
                }
            }
            return n * riddenIfOff(wheel, party) / all + (ahead < over ? 1 : 0);
        }

        private static int riddenIfOff(Wheel wheel, int p) {
            return wheel.how[p] == OFF ? wheel.ridden[p] : 0;
        }
    }

    /** ASKS of PARTIES, by the BODIES told for their KINDS. */
    private static final class Asks {
        private static final int[] KIND_ABOVE = {NONE, ANY_PARTY, FAMILY, FAMILY, ANY_PARTY, SOLITARY};
        private static final int[] SIZE_BODIES = {10, 11, 12, NONE, 13, 14};
        private static final int[] MARK_BODIES = {20, 21, 24, 22, 23, NONE};
        private static final int ASK_SIZE = 0, ASK_MARK = 1, DEEPEST = 16;

        private final Wheel now;
        final int[] bodies = new int[MOST_TRACE];
        int traced;

        Asks(Wheel now) {
            this.now = now;
        }

        static boolean isSuch(int kind, int asked) {
            int nearest = kind;
            for (int i = 0; i <= CRITIC && isKind(nearest); i++) {
                if (nearest == asked) {
                    return true;
                }
                nearest = KIND_ABOVE[nearest];
            }
            return false;
        }

        private static boolean isKind(int kind) {
            return kind >= ANY_PARTY && kind <= CRITIC;
        }

        /** THE TRACE is empty ahead of an ask, not ahead of those within it. */
        int begin(int p, int what) {
            traced = 0;
            return answer(p, what, 0);
        }

        private int answer(int p, int what, int depth) {
            return tell(bodyFor(now.kinds[p], what == ASK_SIZE ? SIZE_BODIES : MARK_BODIES), p, depth);
        }

        private static int bodyFor(int kind, int[] told) {
            int nearest = kind;
            for (int i = 0; i <= CRITIC && isKind(nearest); i++) {
                if (told[nearest] != NONE) {
                    return told[nearest];
                }
                nearest = KIND_ABOVE[nearest];
            }
            return NONE;
        }

        private int tell(int body, int p, int depth) {
            if (depth > DEEPEST) {
                return NONE;
            }
            leaveTrace(body);
            int deeper = depth + 1;
            switch (body) {
                case 10: return now.weights[p];
                case 11: return tell(10, p, deeper) + answer(p, ASK_MARK, deeper);
                case 12: return 0 - tell(11, p, deeper);
                case 13: return tell(10, p, deeper) - 100;
                case 14: return 2 * tell(13, p, deeper);
                case 20: return p;
                case 21: return tell(20, p, deeper) + now.ridden[p];
                case 22: return tell(21, p, deeper) - 1000;
                case 23: return tell(20, p, deeper) - answer(p, ASK_SIZE, deeper);
                case 24: return 2 * tell(21, p, deeper);
                default: return NONE;
            }
        }

        private void leaveTrace(int body) {
            if (traced >= 0 && traced < MOST_TRACE) {
                bodies[traced] = body;
                traced++;
            }
        }
    }
}
