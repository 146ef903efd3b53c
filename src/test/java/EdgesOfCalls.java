import java.util.function.IntFunction;
import java.util.function.IntToLongFunction;

/** Promises 1 to 38, each call's own sentences: what it answers at its edges, what it refuses, in which order. */
final class EdgesOfCalls {
    private static final int NONE = WheelRide.NONE, BAD = WheelRide.BAD, STATE = WheelRide.STATE, FULL = WheelRide.FULL;
    private static final int NULL = -1000011, PLACE = -1000012, KIND = -1000013, SIZE = -1000014, STORE = -1000015;
    private static final int LEAST = Integer.MIN_VALUE, MOST = Integer.MAX_VALUE;

    private final Sentences doc;

    EdgesOfCalls(Sentences doc) {
        this.doc = doc;
    }

    void run() {
        newObject();
        row();
        set();
        copy();
        drop();
        feed();
        wheel();
        fault();
        undo();
        steps();
        stepsRefused();
        turnTo();
        ballast();
        limit();
        again();
        party();
        gondola();
        stand();
        ahead();
        leans();
        when();
        first();
        order();
        load();
        bear();
        sets();
        share();
        byTurns();
        who();
        away();
        drawn();
        image();
        restore();
        kind();
        as();
        ask();
        trace();
        count();
        status();
    }

    /** All that is beside least .. most, near by and far off, is BAD. */
    private void bad(String call, int least, int most, IntToLongFunction made) {
        for (int v : new int[] {least - 1, most + 1, LEAST, MOST}) {
            doc.due(call + " " + v, made.applyAsLong(v), BAD);
        }
    }

    /** Without a WHEEL it is STATE, by numbers as told and by others. */
    private void noWheel(String call, int right, IntFunction<Long> made) {
        for (int v : new int[] {right, -2, LEAST, MOST}) {
            doc.due(call + " without a WHEEL, by " + v, made.apply(v), STATE);
        }
    }

    private void newObject() {
        doc.under("Promise 1:");
        doc.says("No WHEEL.");
        WheelRide x = new WheelRide();
        doc.due("stand", x.stand(0), STATE);
        for (int what = 0; what <= 7; what++) {
            doc.due("count " + what, x.count(what), 0);
        }
        doc.due("no PARTY", x.party(0, 0), BAD);
        doc.due("no GONDOLA", x.gondola(0, 0), BAD);
        doc.due("no IMAGE of it", x.image(0), STATE);
        doc.due("no IMAGE kept", x.restore(0), STATE);
        doc.due("no ACT", x.undo(), STATE);
        doc.due("no FAULT", x.fault(), 0);
        doc.due("no FINDING", x.status(), 0);
        doc.due("no TRACE", x.trace(0), NONE);
        WheelRide y = Check.told("w4,1;f1,1;");
        doc.due("another object's is its own", new WheelRide().count(1), 0);
        doc.due("and stays", y.count(1), 1);
    }

    private void row() {
        doc.under("Promise 2:");
        doc.says("A ROW of a LANE with n ITEMS, in place of what is there: n.");
        WheelRide x = new WheelRide();
        for (int n : new int[] {0, 1, 39, 40}) {
            doc.due("n " + n, x.row(4, 1, n), n);
            doc.due("the last of " + n, x.set(4, n - 1, 1), n == 0 ? PLACE : 1);
            doc.due("beyond " + n, x.set(4, n, 1), PLACE);
            doc.due("one ROW", x.count(0), 1);
        }
        doc.due("fewer in place", x.row(4, 0, 2), 2);
        doc.due("the new end", x.set(4, 2, 0), PLACE);
        doc.due("the new LANE", x.set(4, 1, 384), -128);
        doc.due("how many", x.drop(4), 2);
        doc.says("BAD: ROW, LANE, n above 40; SIZE.");
        bad("ROW", 0, 7, v -> x.row(v, 0, 1));
        bad("LANE", 0, 2, v -> x.row(0, v, 1));
        doc.due("n 41", x.row(0, 0, 41), BAD);
        doc.due("n most", x.row(0, 0, MOST), BAD);
        doc.due("n -1", x.row(0, 0, -1), SIZE);
        doc.due("n least", x.row(0, 0, LEAST), SIZE);
        bad("ROW ahead of SIZE", 0, 7, v -> x.row(v, 0, -1));
        bad("LANE ahead of SIZE", 0, 2, v -> x.row(0, v, -1));
        doc.due("none was made", x.count(0), 0);
    }

    private void set() {
        doc.under("Promise 3:");
        doc.says("ITEM i becomes v, its lowest bits, as many as the LANE has: what it is then.");
        WheelRide x = new WheelRide();
        int[] v = {0, -1, 127, 128, 255, 256, -128, -129, 32767, 32768, 65535, 65536, -32769, 0x12345678, LEAST, MOST};
        for (int lane = 0; lane <= 2; lane++) {
            x.row(lane, lane, 2);
            for (int one : v) {
                int due = lane == 0 ? (byte) one : lane == 1 ? (short) one : one;
                doc.due("LANE " + lane + " " + one, x.set(lane, 1, one), due);
            }
        }
        WheelRide y = Check.told("w4,99;f9,1;");
        y.row(0, 0, 2);
        y.set(0, 1, 256 - 18);
        doc.due("it stays what it is then", y.who(0, 1, 0, 1, 1), 1 << 9);
        doc.due("the other ITEM stays", y.who(0, 1, 0, 0, 1), 0);
        doc.says("BAD: ROW; NULL; PLACE.");
        bad("ROW", 0, 7, row -> y.set(row, 0, 0));
        doc.due("NULL", y.set(1, 0, 0), NULL);
        doc.due("NULL ahead of PLACE", y.set(1, -1, 0), NULL);
        for (int i : new int[] {-1, 2, 40, LEAST, MOST}) {
            doc.due("PLACE " + i, y.set(0, i, 0), PLACE);
        }
        doc.due("place 0", y.set(0, 0, 7), 7);
        doc.due("place 1", y.set(0, 1, 7), 7);
        y.row(0, 0, 0);
        doc.due("PLACE of an empty ROW", y.set(0, 0, 0), PLACE);
    }

    /** ITEM i, if it is -2, -4, .. -18; else 0: the WEIGHT of a lone family that would LEAN so. */
    private static int item(WheelRide x, int row, int i) {
        int bits = x.who(0, 1, row, i, 1);
        return bits <= 0 ? bits : -2 * Integer.numberOfTrailingZeros(bits);
    }

    private void itemsAre(String call, WheelRide x, int row, int... items) {
        for (int i = 0; i < items.length; i++) {
            doc.due(call + ", ITEM " + i, item(x, row, i), items[i]);
        }
    }

    private void copy() {
        doc.under("Promise 4:");
        doc.says("n ITEMS of a from i on come to b from j on, as they were ahead: n.");
        for (int lane = 0; lane <= 2; lane++) {
            WheelRide x = Check.told("w4,99;f9,1;");
            x.row(0, lane, 4);
            x.row(1, lane, 3);
            for (int i = 0; i < 4; i++) {
                x.set(0, i, -2 * (i + 1));
            }
            doc.due("the last two", x.copy(0, 2, 1, 0, 2), 2);
            itemsAre("the last two", x, 1, -6, -8, 0);
            doc.due("none", x.copy(0, 0, 1, 0, 0), 0);
            doc.due("none at the ends", x.copy(0, 4, 1, 3, 0), 0);
            itemsAre("none", x, 1, -6, -8, 0);
            doc.due("up to both ends", x.copy(0, 1, 1, 0, 3), 3);
            itemsAre("up to both ends", x, 1, -4, -6, -8);
            doc.due("up within one", x.copy(0, 0, 0, 1, 3), 3);
            itemsAre("as they were ahead", x, 0, -2, -2, -4, -6);
            doc.due("down within one", x.copy(0, 1, 0, 0, 3), 3);
            itemsAre("as they were ahead", x, 0, -2, -4, -6, -6);
            doc.due("onto itself", x.copy(0, 0, 0, 0, 4), 4);
            itemsAre("onto itself", x, 0, -2, -4, -6, -6);
        }
        copyRefused();
    }

    private void copyRefused() {
        doc.says("BAD: ROWS; NULL; STORE; PLACE (i, j, n below 0, or beyond an end).");
        WheelRide x = new WheelRide();
        x.row(0, 1, 4);
        x.row(1, 1, 3);
        x.row(2, 2, 4);
        x.row(3, 1, 0);
        bad("a", 0, 7, a -> x.copy(a, 0, 7, 0, 0));
        bad("b", 0, 7, b -> x.copy(7, 0, b, 0, 0));
        doc.due("NULL a", x.copy(7, 0, 0, 0, 0), NULL);
        doc.due("NULL b", x.copy(0, 0, 7, 0, 0), NULL);
        doc.due("NULL both", x.copy(7, 0, 7, 0, 0), NULL);
        doc.due("NULL ahead of PLACE", x.copy(7, -1, 0, -1, -1), NULL);
        doc.due("STORE", x.copy(0, 0, 2, 0, 1), STORE);
        doc.due("STORE by none", x.copy(2, 0, 0, 0, 0), STORE);
        doc.due("STORE ahead of PLACE", x.copy(0, -1, 2, -1, -1), STORE);
        for (int wrong : new int[] {-1, LEAST, 5, MOST}) {
            doc.due("PLACE i " + wrong, x.copy(0, wrong, 1, 0, 0), PLACE);
            doc.due("PLACE j " + wrong, x.copy(1, 0, 0, wrong, 0), PLACE);
            doc.due("PLACE n " + wrong, x.copy(0, 0, 0, 0, wrong), PLACE);
            doc.due("PLACE i and n " + wrong, x.copy(0, 1, 0, 0, wrong), PLACE);
        }
        doc.due("beyond the end of a", x.copy(0, 2, 1, 0, 3), PLACE);
        doc.due("beyond the end of b", x.copy(0, 0, 1, 0, 4), PLACE);
        doc.due("beyond the end of b by j", x.copy(0, 0, 1, 3, 1), PLACE);
        doc.due("none from a's end on", x.copy(0, 4, 1, 3, 0), 0);
        doc.due("none behind a's end", x.copy(0, 5, 1, 0, 0), PLACE);
        doc.due("none behind b's end", x.copy(0, 0, 1, 4, 0), PLACE);
        doc.due("i and n together wrap around", x.copy(0, 3, 0, 0, MOST - 1), PLACE);
        doc.due("j and n together wrap around", x.copy(0, MOST, 0, MOST, MOST), PLACE);
        doc.due("empty ones", x.copy(3, 0, 3, 0, 0), 0);
        doc.due("of an empty one", x.copy(3, 0, 0, 0, 1), PLACE);
    }

    private void drop() {
        doc.under("Promise 5:");
        doc.says("A ROW is missing from now on: how many ITEMS it had.");
        WheelRide x = new WheelRide();
        x.row(0, 2, 40);
        x.row(7, 0, 0);
        doc.due("40", x.drop(0), 40);
        doc.due("missing: set", x.set(0, 0, 0), NULL);
        doc.due("missing: copy", x.copy(0, 0, 7, 0, 0), NULL);
        doc.due("the other one is there", x.count(0), 1);
        doc.due("0", x.drop(7), 0);
        doc.due("none is there", x.count(0), 0);
        doc.due("made anew", x.row(0, 1, 3), 3);
        doc.due("dropped anew", x.drop(0), 3);
        doc.says("BAD; NULL.");
        bad("ROW", 0, 7, x::drop);
        doc.due("twice", x.drop(0), NULL);
        doc.due("never made", x.drop(5), NULL);
    }

    private void feed() {
        doc.under("Promise 6:");
        doc.says("A byte (0 to 255) comes behind the tape: how many it has.");
        WheelRide x = new WheelRide();
        doc.due("0", x.feed(0), 1);
        doc.due("255", x.feed(255), 2);
        doc.due("behind it", x.feed('w'), 3);
        doc.due("it was no TOKEN", x.wheel(), -1000100);
        doc.due("anew", x.feed('w'), 1);
        doc.says("BAD; FULL.");
        bad("byte", 0, 255, x::feed);
        for (int i = 2; i <= 99; i++) {
            x.feed(',');
        }
        doc.due("the 100th", x.feed(','), 100);
        doc.due("one more", x.feed(','), FULL);
        bad("byte, BAD ahead of FULL", 0, 255, x::feed);
        doc.due("100 yet", x.count(7), 100);
    }

    private void wheel() {
        doc.under("Promise 7:");
        doc.says("The tape, empty then, is read: how many PARTIES there are.");
        WheelRide x = new WheelRide();
        StringBuilder text = new StringBuilder("w4,1;");
        for (int parties = 1; parties <= 6; parties++) {
            text.append("f1,1;");
            doc.due("PARTIES", Check.read(x, text.toString()), parties);
            doc.due("empty then", x.count(7), 0);
        }
        doc.due("an empty tape", x.wheel(), -1000100);
        doc.due("empty behind a FAULT, too", Check.read(x, "w4,1;x"), -1000105);
        doc.due("bytes", x.count(7), 0);
        doc.says("-1000100 less the place of a FAULT: all stays.");
        faultLeaves("", 0);
        faultLeaves("w", 1);
        faultLeaves("w12,99;f9,4;s1,1;c2,2;l3,3;g4,4;f5,5;", 35);
        faultLeaves("w12,99;f9,4;s1,1;c2,2;l3,3;g4,4;f5,4;f", 37);
    }

    private void faultLeaves(String text, int place) {
        WheelRide x = Check.told("w6,20;f3,2;g5,1;c5,1;c5,1;");
        x.steps(8);
        x.ballast(3, 4);
        x.image(0);
        x.ask(1, 0);
        doc.due("the place, " + text, Check.read(x, text), -1000100 - place);
        doc.due("PARTIES stay, " + text, x.count(1), 4);
        doc.due("GONDOLAS stay, " + text, x.count(2), 6);
        doc.due("LIMIT stays, " + text, x.stand(2), 20);
        doc.due("STEP stays, " + text, x.count(3), 8);
        doc.due("BALLAST stays, " + text, x.count(4), 4);
        doc.due("OFF stay, " + text, x.stand(7), 2);
        doc.due("GONE stay, " + text, x.stand(8), 12);
        doc.due("KIND stays, " + text, x.kind(1), 3);
        doc.due("THE TRACE stays, " + text, x.trace(0), 11);
        doc.due("ACTS stay, " + text, x.undo(), 8);
        doc.due("an ACT is undone, " + text, x.count(4), 0);
        doc.due("the IMAGE stays, " + text, x.restore(0), 1);
        doc.due("as it was kept, " + text, x.count(4), 4);
    }

    private void fault() {
        doc.under("Promise 8:");
        doc.says("The number of the latest FAULT; 0 before one.");
        WheelRide x = new WheelRide();
        doc.due("0 at first", x.fault(), 0);
        Check.read(x, "w4,1;f1,1;");
        doc.due("0 before one", x.fault(), 0);
        Check.read(x, "w4,1;f1,1;f1,1;f1,1;f1,1;f1,1;f1,1;f1,1;");
        doc.due("3", x.fault(), 3);
        Check.read(x, "w3");
        doc.due("2", x.fault(), 2);
        Check.read(x, "");
        doc.due("1", x.fault(), 1);
        Check.read(x, "w99");
        Check.read(x, "w4,1;f1,1;");
        doc.due("the latest, behind a good text, too", x.fault(), 2);
        doc.due("asked once more", x.fault(), 2);
    }

    private void undo() {
        doc.under("Promise 9:");
        doc.says("The latest ACT is undone: how many can be undone yet.");
        WheelRide x = Check.told("w4,99;g1,1;");
        x.steps(5);
        x.again(0);
        x.turnTo(3);
        x.limit(5);
        x.ballast(1, 9);
        doc.due("BALLAST", x.undo(), 8);
        doc.due("none", x.count(4), 0);
        doc.due("LIMIT stays", x.stand(2), 5);
        doc.due("LIMIT", x.undo(), 7);
        doc.due("99", x.stand(2), 99);
        doc.due("by hand", x.undo(), 6);
        doc.due("THE BOTTOM", x.stand(1), 1);
        doc.due("again", x.undo(), 5);
        doc.due("OFF", x.party(0, 0), 2);
        for (int left = 4; left >= 0; left--) {
            doc.due("a STEP", x.undo(), left);
            doc.due("STEP", x.count(3), left);
        }
        doc.due("it WAITS", x.stand(5), 1);
        doc.says("STATE: none.");
        doc.due("none left", x.undo(), STATE);
        doc.due("none left yet", x.undo(), STATE);
        doc.due("a new object", new WheelRide().undo(), STATE);
        doc.due("a new WHEEL", Check.told("w4,99;g1,1;").undo(), STATE);
        x.steps(1);
        Check.read(x, "w4,99;g1,1;");
        doc.due("another WHEEL", x.undo(), STATE);
        x.image(1);
        x.steps(1);
        x.restore(1);
        doc.due("behind restore()", x.undo(), STATE);
    }

    private void steps() {
        doc.under("Promise 10:");
        doc.says("n STEPS (1 to 24), an ACT each: which are OFF then (bits).");
        WheelRide x = Check.told("w4,99;g1,1;g1,1;g1,1;f1,4;");
        doc.due("1", x.steps(1), 0);
        doc.due("an ACT", x.count(6), 1);
        doc.due("4", x.steps(4), 1);
        doc.due("an ACT each", x.count(6), 5);
        doc.due("2", x.steps(2), 7);
        doc.due("none more", x.steps(1), 7);
        doc.due("24", x.steps(24), 15);
        doc.due("24 ACTS", x.count(6), 24);
        doc.due("STEP", x.count(3), 32);
        x.again(1);
        doc.due("one that came again is not", x.steps(1), 13);
    }

    private void stepsRefused() {
        doc.says("BAD; STATE: no WHEEL (ahead of BAD); FULL: STEP would be above 999.");
        noWheel("steps", 1, v -> (long) new WheelRide().steps(v));
        WheelRide x = Check.told("w4,99;f1,1;");
        bad("n", 1, 24, x::steps);
        for (int i = 0; i < 41; i++) {
            x.steps(24);
        }
        doc.due("984 and 16", x.steps(16), FULL);
        doc.due("984 and 24", x.steps(24), FULL);
        doc.due("984 yet", x.count(3), 984);
        bad("n, ahead of FULL", 1, 24, x::steps);
        doc.due("984 and 15", x.steps(15), 1);
        doc.due("999", x.count(3), 999);
        doc.due("999 and 1", x.steps(1), FULL);
        bad("n, ahead of FULL yet", 1, 24, x::steps);
        x.undo();
        doc.due("998 and 2", x.steps(2), FULL);
        doc.due("998 and 1", x.steps(1), 1);
        doc.due("a new WHEEL begins anew", Check.read(x, "w4,99;f1,1;"), 1);
        doc.due("from STEP 0 on", x.steps(24), 1);
    }

    private void turnTo() {
        doc.under("Promise 11:");
        doc.says("THE BOTTOM is another GONDOLA: which it was.");
        WheelRide x = Check.told("w12,1;f9,1;");
        doc.due("the last", x.turnTo(11), 0);
        doc.due("the first", x.turnTo(0), 11);
        doc.due("within", x.turnTo(6), 0);
        doc.due("THE BOTTOM", x.stand(1), 6);
        doc.due("ACTS", x.count(6), 3);
        doc.says("BAD; STATE: it is there.");
        bad("GONDOLA", 0, 11, x::turnTo);
        doc.due("it is there", x.turnTo(6), STATE);
        doc.due("no ACT", x.count(6), 3);
        doc.due("there is none", new WheelRide().turnTo(0), BAD);
        WheelRide y = Check.told("w4,1;f1,1;");
        bad("of 4", 0, 3, y::turnTo);
        doc.due("there at first", y.turnTo(0), STATE);
    }

    private void ballast() {
        doc.under("Promise 12:");
        doc.says("BALLAST (0 to 9) of a GONDOLA: what it was.");
        WheelRide x = Check.told("w4,1;f9,1;");
        doc.due("9", x.ballast(3, 9), 0);
        doc.due("0", x.ballast(3, 0), 9);
        doc.due("of the first", x.ballast(0, 1), 0);
        doc.due("once more", x.ballast(0, 1), 1);
        doc.due("together", x.count(4), 1);
        doc.due("as it is", x.gondola(0, 2), 1);
        doc.says("BAD.");
        bad("GONDOLA", 0, 3, g -> x.ballast(g, 1));
        bad("BALLAST", 0, 9, v -> x.ballast(0, v));
        doc.due("no WHEEL", new WheelRide().ballast(0, 0), BAD);
        doc.due("as it was", x.count(4), 1);
    }

    private void limit() {
        doc.under("Promise 13:");
        doc.says("LIMIT (1 to 99): what it was.");
        WheelRide x = Check.told("w4,50;f9,1;");
        doc.due("1", x.limit(1), 50);
        doc.due("99", x.limit(99), 1);
        doc.due("as it is", x.stand(2), 99);
        doc.says("BAD; STATE: no WHEEL (ahead of BAD).");
        bad("LIMIT", 1, 99, x::limit);
        noWheel("limit", 1, v -> (long) new WheelRide().limit(v));
    }

    private void again() {
        doc.under("Promise 14:");
        doc.says("Comes again: which WAIT then (bits).");
        WheelRide x = Check.told("w4,99;f1,4;f1,4;g1,1;f1,4;f1,4;c1,1;");
        x.steps(7);
        doc.due("OFF", x.party(2, 0), 2);
        doc.due("GONE", x.party(5, 0), 3);
        doc.due("one GONE", x.again(5), 32);
        doc.due("one OFF", x.again(2), 36);
        doc.due("they WAIT", x.stand(5), 36);
        doc.says("BAD; STATE: it WAITS or is ABOARD.");
        bad("PARTY", 0, 5, x::again);
        doc.due("it WAITS", x.again(5), STATE);
        doc.due("it is ABOARD", x.again(0), STATE);
        doc.due("no WHEEL", new WheelRide().again(0), BAD);
        doc.due("no ACT of it", x.count(6), 9);
        doc.due("PARTY 1 of 1", Check.told("w4,1;f1,1;").again(1), BAD);
    }

    private void party() {
        doc.under("Promise 15:");
        doc.says("Of a PARTY: 0 how it is (0 WAITS, 1 ABOARD, 2 OFF, 3 GONE), 1 its GONDOLA (NONE: not ABOARD), 2 WEIGHT, 3 ROUNDS,"
            + " 4 RIDDEN, 5 WAITED.");
        WheelRide x = Check.told("w4,99;g9,3;f1,4;l2,2;s3,1;f4,4;c5,1;");
        x.steps(5);
        int[][] due = {{2, NONE, 9, 3, 1, 0}, {1, 1, 1, 4, 1, 1}, {1, 2, 2, 2, 0, 2}, {1, 3, 3, 1, 0, 3}, {1, 0, 4, 4, 0, 4},
            {3, NONE, 5, 1, 0, 2}};
        for (int p = 0; p < 6; p++) {
            for (int what = 0; what <= 5; what++) {
                doc.due("party(" + p + ", " + what + ")", x.party(p, what), due[p][what]);
            }
        }
        x.again(5);
        doc.due("WAITS", x.party(5, 0), 0);
        doc.due("in no GONDOLA", x.party(5, 1), NONE);
        doc.says("BAD.");
        bad("PARTY", 0, 5, p -> x.party(p, 0));
        bad("what", 0, 5, what -> x.party(0, what));
        doc.due("no WHEEL", new WheelRide().party(0, 0), BAD);
    }

    private void gondola() {
        doc.under("Promise 16:");
        doc.says("Of a GONDOLA: 0 its PLACE, 1 PULL of that, 2 BALLAST, 3 the PARTY in it (NONE).");
        WheelRide x = Check.told("w5,99;f1,1;g2,1;");
        x.ballast(4, 7);
        x.steps(2);
        int[][] due = {{3, -2, 0, 0}, {4, -3, 0, 1}, {0, 0, 0, NONE}, {1, 3, 0, NONE}, {2, 2, 7, NONE}};
        for (int g = 0; g < 5; g++) {
            for (int what = 0; what <= 3; what++) {
                doc.due("gondola(" + g + ", " + what + ")", x.gondola(g, what), due[g][what]);
            }
        }
        x.steps(4);
        doc.due("the family is OFF", x.gondola(0, 3), NONE);
        doc.due("giddy ones are at THE BOTTOM", x.gondola(1, 3), 1);
        doc.says("BAD.");
        bad("GONDOLA", 0, 4, g -> x.gondola(g, 0));
        bad("what", 0, 3, what -> x.gondola(0, what));
        doc.due("no WHEEL", new WheelRide().gondola(0, 0), BAD);
    }

    private void stand() {
        doc.under("Promise 17:");
        doc.says("0 GONDOLAS, 1 which is at THE BOTTOM, 2 LIMIT, 3 LEAN, 4 whether it is IN BALANCE (1, 0), 5 which WAIT (bits),"
            + " 6 ABOARD, 7 OFF, 8 GONE.");
        WheelRide x = Check.told("w4,99;g9,3;f1,4;l2,2;s3,1;f4,4;c5,1;");
        x.steps(5);
        x.again(0);
        int[] due = {4, 1, 99, 2 * 2 - 4 * 2, 1, 1, 30, 0, 32};
        for (int what = 0; what <= 8; what++) {
            doc.due("stand(" + what + ")", x.stand(what), due[what]);
        }
        x.undo();
        doc.due("OFF", x.stand(7), 1);
        x.limit(1);
        x.ballast(0, 4);
        doc.due("LEAN", x.stand(3), -12);
        doc.due("not IN BALANCE", x.stand(4), 0);
        doc.says("BAD; STATE: no WHEEL (ahead of BAD).");
        bad("what", 0, 8, x::stand);
        noWheel("stand", 0, v -> (long) new WheelRide().stand(v));
    }

    private void ahead() {
        doc.under("Promise 18:");
        doc.says("AHEAD: how (what = 0), GONDOLA (1; NONE), RIDDEN (2), WAITED (3).");
        WheelRide x = Check.told("w4,99;f1,4;f1,4;");
        int[][] due = {{0, NONE, 0, 0}, {0, NONE, 0, 1}, {1, 1, 0, 1}, {1, 1, 0, 1}, {1, 1, 0, 1}, {1, 1, 1, 1}};
        for (int n = 0; n < due.length; n++) {
            for (int what = 0; what <= 3; what++) {
                doc.due("ahead(1, " + n + ", " + what + ")", x.ahead(1, n, what), due[n][what]);
            }
        }
        doc.due("ahead by 60", x.ahead(1, 60, 2), 4);
        doc.says("BAD.");
        bad("PARTY", 0, 1, p -> x.ahead(p, 0, 0));
        bad("n", 0, 60, n -> x.ahead(0, n, 0));
        bad("what", 0, 3, what -> x.ahead(0, 0, what));
        doc.due("no WHEEL", new WheelRide().ahead(0, 0, 0), BAD);
    }

    private void leans() {
        doc.under("Promise 19:");
        doc.says("LEANS (may be below 0).");
        WheelRide x = Check.told("w4,99;f9,4;");
        doc.due("now", x.leans(0), 0);
        doc.due("below 0", x.leans(1), -18);
        doc.due("above 0", x.leans(3), 18);
        doc.due("when it is OFF", x.leans(60), 0);
        WheelRide y = Check.told("w12,99;f9,4;f9,4;f9,4;f9,4;f9,4;");
        doc.due("far below 0", y.leans(5), -630);
        doc.says("BAD; STATE: no WHEEL (ahead of BAD).");
        bad("n", 0, 60, x::leans);
        noWheel("leans", 0, v -> (long) new WheelRide().leans(v));
    }

    private void when() {
        doc.under("Promise 20:");
        doc.says("WHEN; NONE.");
        WheelRide x = Check.told("w4,99;f9,4;c1,1;c1,1;");
        doc.due("ABOARD", x.when(0, 1), 1);
        doc.due("OFF", x.when(0, 2), 17);
        doc.due("GONE", x.when(2, 3), 2);
        doc.due("NONE", x.when(2, 1), NONE);
        x.steps(2);
        doc.due("now", x.when(2, 3), 0);
        doc.says("BAD.");
        bad("PARTY", 0, 2, p -> x.when(p, 1));
        bad("how", 1, 3, how -> x.when(0, how));
        doc.due("no WHEEL", new WheelRide().when(0, 1), BAD);
    }

    private void first() {
        doc.under("Promise 21:");
        doc.says("STICKS (what = 0), OVER (1); NONE.");
        WheelRide x = Check.told("w4,1;f5,1;f6,1;");
        doc.due("STICKS", x.first(0), 2);
        doc.due("never OVER", x.first(1), NONE);
        x.limit(2);
        doc.due("never STICKS", x.first(0), NONE);
        doc.due("OVER", x.first(1), 6);
        doc.says("BAD; STATE: no WHEEL (ahead of BAD).");
        bad("what", 0, 1, x::first);
        noWheel("first", 0, v -> (long) new WheelRide().first(v));
    }

    private void order() {
        doc.under("Promise 22:");
        doc.says("ORDER: how many (k = -1), the k-th (0 on; NONE: not so many).");
        WheelRide x = Check.told("w4,99;f1,4;f1,4;f1,4;g1,1;g1,1;g1,1;");
        int[] due = {3, 4, 0, 1, 2, 5};
        doc.due("how many", x.order(6, -1), 2);
        for (int k = 0; k < 6; k++) {
            doc.due("k " + k, x.order(6, k), due[k]);
        }
        doc.due("k 6", x.order(6, 6), NONE);
        doc.due("k most", x.order(6, MOST), NONE);
        doc.due("k 1 of 1", Check.told("w4,99;f1,4;").order(1, 1), NONE);
        x.steps(3);
        doc.due("all PARTIES, ABOARD or not", x.order(4, 5), 5);
        doc.says("BAD: k below -1, too; STATE: no WHEEL (ahead of BAD).");
        doc.due("k -2", x.order(6, -2), BAD);
        doc.due("k least", x.order(6, LEAST), BAD);
        bad("n", 1, 40, n -> x.order(n, 0));
        bad("n, how many", 1, 40, n -> x.order(n, -1));
        bad("n, not so many", 1, 40, n -> x.order(n, 6));
        noWheel("order n", 1, n -> (long) new WheelRide().order(n, 0));
        noWheel("order k", -1, k -> (long) new WheelRide().order(1, k));
    }

    private void load() {
        doc.under("Promise 23:");
        doc.says("LOAD: which (what = 0), how often (1).");
        WheelRide x = Check.told("w4,1;f9,4;f9,4;");
        doc.due("which", x.load(1, 0), 24);
        doc.due("how often", x.load(1, 1), 0);
        doc.due("two, which", x.load(2, 0), 24);
        doc.due("two, how often", x.load(2, 1), 1);
        doc.says("BAD; STATE: no WHEEL (ahead of BAD).");
        bad("n", 1, 40, n -> x.load(n, 0));
        bad("what", 0, 1, what -> x.load(1, what));
        noWheel("load n", 1, n -> (long) new WheelRide().load(n, 0));
        noWheel("load what", 0, what -> (long) new WheelRide().load(1, what));
    }

    private void bear() {
        doc.under("Promise 24:");
        doc.says("BEAR; NONE.");
        WheelRide x = Check.told("w5,99;f9,4;f9,4;");
        doc.due("one", x.bear(1), 3);
        doc.due("two", x.bear(2), 5);
        doc.due("forty", x.bear(40), 5);
        WheelRide y = Check.told("w12,1;f9,4;f9,4;f9,4;f9,4;f9,4;f9,4;");
        for (int g = 0; g < 5; g++) {
            y.ballast(g, 9);
        }
        doc.due("NONE", y.bear(40), NONE);
        doc.says("BAD; STATE: no WHEEL (ahead of BAD).");
        bad("n", 1, 40, x::bear);
        noWheel("bear", 1, v -> (long) new WheelRide().bear(v));
    }

    private void sets() {
        doc.under("Promise 25:");
        doc.says("SETS: how many (what = 0), in all (1), in any (2).");
        WheelRide x = Check.told("w4,99;f1,1;f1,1;f5,1;");
        doc.due("how many", x.sets(6, 0), 2);
        doc.due("in all", x.sets(6, 1), 4);
        doc.due("in any", x.sets(6, 2), 7);
        doc.due("of 0", x.sets(0, 0), 1);
        doc.due("of 54", x.sets(54, 0), 0);
        doc.says("BAD; STATE: no WHEEL (ahead of BAD).");
        bad("v", 0, 54, v -> x.sets(v, 0));
        bad("what", 0, 2, what -> x.sets(6, what));
        noWheel("sets v", 0, v -> (long) new WheelRide().sets(v, 0));
        noWheel("sets what", 0, what -> (long) new WheelRide().sets(0, what));
    }

    private void share() {
        doc.under("Promise 26:");
        doc.says("SHARE.");
        WheelRide x = Check.told("w4,99;g1,1;g1,1;f1,4;");
        x.steps(6);
        doc.due("the first", x.share(0, 999), 500);
        doc.due("the second", x.share(1, 999), 499);
        doc.due("one ABOARD", x.share(2, 999), 0);
        doc.due("of 0", x.share(0, 0), 0);
        doc.says("BAD.");
        bad("PARTY", 0, 2, p -> x.share(p, 1));
        bad("n", 0, 999, n -> x.share(0, n));
        doc.due("no WHEEL", new WheelRide().share(0, 0), BAD);
    }

    private void byTurns() {
        doc.under("Promise 27:");
        doc.says("TURNS.");
        WheelRide x = Check.told("w4,1;f8,1;");
        x.steps(1);
        x.turnTo(2);
        doc.due("it STICKS", x.byTurns(0, 2), 0);
        doc.due("BALLAST helps", x.byTurns(1, 2), 1);
        doc.due("the one waits for it", x.byTurns(1, 1), 0);
        doc.due("20 STEPS", x.byTurns(4, 20), 1);
        doc.says("BAD; STATE: no WHEEL (ahead of BAD).");
        bad("n", 0, 4, n -> x.byTurns(n, 1));
        bad("m", 1, 20, m -> x.byTurns(0, m));
        noWheel("byTurns n", 0, n -> (long) new WheelRide().byTurns(n, 1));
        noWheel("byTurns m", 1, m -> (long) new WheelRide().byTurns(0, m));
    }

    private void who() {
        doc.under("Promise 28:");
        doc.says("KINDS (which = 0), WEIGHTS (1), MEANT ROUNDS (2), LIMITS (3 how many, 4 the least; NONE), n ITEMS of a ROW from i on.");
        WheelRide x = Check.told("w4,1;f9,3;");
        x.row(7, 2, 14);
        int[] due = {62, 1 << 6 | 1 << 7 | 1 << 8 | 1 << 9, 30, 1, 1};
        for (int which = 0; which <= 4; which++) {
            doc.due("it STICKS, which " + which, x.who(0, which, 7, 2, 12), due[which]);
        }
        x.set(7, 13, -18);
        doc.due("it TURNS, LIMITS", x.who(0, 3, 7, 13, 1), 98);
        doc.due("it TURNS, the least", x.who(0, 4, 7, 13, 1), 2);
        doc.due("by no KIND", x.who(0, 0, 7, 13, 1), 0);
        x.set(7, 13, 1);
        doc.due("by no LIMIT", x.who(0, 3, 7, 13, 1), 0);
        doc.due("the least of none", x.who(0, 4, 7, 13, 1), NONE);
        doc.says("BAD: PARTY, which, ROW, n; NULL; PLACE.");
        bad("PARTY", 0, 0, p -> x.who(p, 0, 7, 0, 1));
        bad("which", 0, 4, which -> x.who(0, which, 7, 0, 1));
        bad("ROW", 0, 7, row -> x.who(0, 0, row, 0, 1));
        bad("n", 1, 12, n -> x.who(0, 0, 7, 0, n));
        bad("n, ahead of NULL", 1, 12, n -> x.who(0, 0, 6, 0, n));
        bad("n, ahead of PLACE", 1, 12, n -> x.who(0, 0, 7, -1, n));
        doc.due("no WHEEL", new WheelRide().who(0, 0, 0, 0, 1), BAD);
        doc.due("NULL", x.who(0, 0, 6, 0, 1), NULL);
        doc.due("NULL ahead of PLACE", x.who(0, 0, 6, -1, 1), NULL);
        for (int i : new int[] {-1, 14, LEAST, MOST, MOST - 1}) {
            doc.due("PLACE " + i, x.who(0, 0, 7, i, 1), PLACE);
        }
        doc.due("PLACE 3 of 12", x.who(0, 0, 7, 3, 12), PLACE);
        x.row(6, 0, 0);
        doc.due("PLACE of an empty ROW", x.who(0, 0, 6, 0, 1), PLACE);
    }

    private void away() {
        doc.under("Promise 29:");
        doc.says("AWAY: above (what = 0), below (1).");
        WheelRide x = Check.told("w4,1;f9,1;f9,1;f9,1;");
        doc.due("above", x.away(1, 6, 0), 27);
        doc.due("below", x.away(1, 6, 1), 125);
        doc.due("above by 0", x.away(1, 0, 0), 0);
        doc.due("below by 0", x.away(1, 0, 1), 1);
        doc.says("BAD; STATE: no WHEEL (ahead of BAD).");
        bad("n", 0, 40, n -> x.away(n, 5, 0));
        bad("p", 0, 10, p -> x.away(1, p, 0));
        bad("what", 0, 1, what -> x.away(1, 5, what));
        noWheel("away n", 0, n -> new WheelRide().away(n, 5, 0));
        noWheel("away p", 0, p -> new WheelRide().away(1, p, 0));
        noWheel("away what", 0, what -> new WheelRide().away(1, 5, what));
    }

    private void drawn() {
        doc.under("Promise 30:");
        doc.says("DAYS by a SEED (1 to 999999): how often (what = 0), RIDDEN (1).");
        WheelRide x = Check.told("w4,1;f3,4;");
        doc.due("how often by 1", x.drawn(10, 1, 0), 4);
        doc.due("RIDDEN by 1", x.drawn(10, 1, 1), 1);
        doc.due("how often by 999999", x.drawn(1, 999999, 0), 1);
        doc.due("no day", x.drawn(0, 999999, 0), 0);
        doc.says("BAD; STATE: no WHEEL (ahead of BAD).");
        bad("n", 0, 60, n -> x.drawn(n, 1, 0));
        bad("SEED", 1, 999999, seed -> x.drawn(1, seed, 0));
        bad("what", 0, 1, what -> x.drawn(1, 1, what));
        noWheel("drawn n", 0, n -> (long) new WheelRide().drawn(n, 1, 0));
        noWheel("drawn seed", 1, seed -> (long) new WheelRide().drawn(0, seed, 0));
        noWheel("drawn what", 0, what -> (long) new WheelRide().drawn(0, 1, what));
    }

    private void image() {
        doc.under("Promise 31:");
        doc.says("An IMAGE (0, 1) is kept of the WHEEL: 1.");
        WheelRide x = Check.told("w4,9;f1,1;");
        doc.due("0", x.image(0), 1);
        x.steps(1);
        doc.due("1", x.image(1), 1);
        doc.due("no ACT", x.count(6), 1);
        x.restore(0);
        doc.due("the first", x.count(3), 0);
        x.restore(1);
        doc.due("the second", x.count(3), 1);
        x.steps(1);
        doc.due("in place of the first", x.image(0), 1);
        x.steps(1);
        x.restore(0);
        doc.due("the new one", x.count(3), 2);
        doc.says("BAD; STATE: no WHEEL.");
        bad("IMAGE", 0, 1, x::image);
        bad("IMAGE, ahead of STATE", 0, 1, k -> new WheelRide().image(k));
        doc.due("no WHEEL, 0", new WheelRide().image(0), STATE);
        doc.due("no WHEEL, 1", new WheelRide().image(1), STATE);
    }

    private void restore() {
        doc.under("Promise 32:");
        doc.says("The WHEEL is as an IMAGE kept it (no ACT can be undone then): 1.");
        WheelRide x = Check.told("w4,99;g3,1;f9,4;c1,1;c1,1;");
        x.ballast(2, 5);
        x.steps(6);
        x.limit(77);
        x.turnTo(3);
        x.image(1);
        String kept = shape(x);
        x.steps(9);
        x.ballast(2, 0);
        x.again(2);
        Check.read(x, "w12,1;s9,1;");
        x.steps(3);
        doc.due("restore", x.restore(1), 1);
        doc.same("restore", shape(x), kept);
        doc.due("no ACT", x.count(6), 0);
        doc.due("none to undo", x.undo(), STATE);
        doc.due("STEPS go on", x.steps(1), 1);
        doc.due("an ACT anew", x.undo(), 0);
        doc.same("undo", shape(x), kept);
        x.steps(5);
        doc.due("once more", x.restore(1), 1);
        doc.same("once more", shape(x), kept);
        doc.says("BAD; STATE: none was kept.");
        bad("IMAGE", 0, 1, x::restore);
        doc.due("the other one", x.restore(0), STATE);
        bad("IMAGE, ahead of STATE", 0, 1, k -> new WheelRide().restore(k));
        doc.due("a new object, 0", new WheelRide().restore(0), STATE);
        doc.due("a new object, 1", new WheelRide().restore(1), STATE);
    }

    private static String shape(WheelRide x) {
        StringBuilder seen = new StringBuilder();
        for (int what = 0; what <= 8; what++) {
            seen.append(x.stand(what)).append(' ');
        }
        for (int p = 0; p < x.count(1); p++) {
            seen.append(x.kind(p)).append(' ');
            for (int what = 0; what <= 5; what++) {
                seen.append(x.party(p, what)).append(' ');
            }
        }
        for (int g = 0; g < x.count(2); g++) {
            seen.append(x.gondola(g, 2)).append(' ');
        }
        return seen.append(x.count(3)).toString();
    }

    private void kind() {
        doc.under("Promise 33:");
        doc.says("The KIND of a PARTY, as told (1 to 5).");
        WheelRide x = Check.told("w4,9;c1,1;s1,1;g1,1;l1,1;f1,1;c1,1;");
        int[] due = {5, 4, 3, 2, 1, 5};
        for (int p = 0; p < 6; p++) {
            doc.due("kind(" + p + ")", x.kind(p), due[p]);
        }
        doc.says("BAD.");
        bad("PARTY", 0, 5, x::kind);
        doc.due("no WHEEL", new WheelRide().kind(0), BAD);
        doc.due("PARTY 1 of 1", Check.told("w4,9;c1,1;").kind(1), BAD);
    }

    private void as() {
        doc.under("Promise 34:");
        doc.says("A PARTY is taken as one of a KIND (0 .. 5): its number.");
        WheelRide x = Check.told("w4,9;f1,1;l1,1;g1,1;s1,1;c1,1;c1,1;");
        doc.due("a critic as one", x.as(5, 5), 5);
        doc.due("a critic as a solitary one", x.as(5, 4), 5);
        doc.due("a critic as a PARTY", x.as(5, 0), 5);
        doc.due("a family as a PARTY", x.as(0, 0), 0);
        doc.says("BAD; KIND: it is no such one.");
        bad("PARTY", 0, 5, p -> x.as(p, 0));
        bad("KIND", 0, 5, kind -> x.as(0, kind));
        doc.due("no WHEEL", new WheelRide().as(0, 0), BAD);
        doc.due("a critic as a family", x.as(5, 1), KIND);
        doc.due("a solitary one as a critic", x.as(3, 5), KIND);
        doc.due("lovers as giddy ones", x.as(1, 3), KIND);
        doc.due("giddy ones as lovers", x.as(2, 2), KIND);
        doc.due("a family as lovers", x.as(0, 2), KIND);
        doc.due("a family as a solitary one", x.as(0, 4), KIND);
    }

    private void ask() {
        doc.under("Promise 35:");
        doc.says("An ASK (0, 1) of a PARTY.");
        WheelRide x = Check.told("w4,9;f1,1;c9,1;");
        doc.due("SIZE", x.ask(1, 0), -182);
        doc.due("MARK", x.ask(1, 1), 183);
        doc.says("BAD.");
        bad("PARTY", 0, 1, p -> x.ask(p, 0));
        bad("ASK", 0, 1, what -> x.ask(0, what));
        doc.due("no WHEEL", new WheelRide().ask(0, 0), BAD);
        doc.due("THE TRACE stays, when it is BAD", x.trace(4), 10);
        doc.says("THE TRACE is empty ahead of it.");
        x.ask(1, 1);
        doc.due("five BODIES", x.trace(4), 10);
        x.ask(0, 1);
        doc.due("the first of two", x.trace(0), 21);
        doc.due("the second", x.trace(1), 20);
        doc.due("no third", x.trace(2), NONE);
    }

    private void trace() {
        doc.under("Promise 36:");
        doc.says("Number i of THE TRACE; NONE.");
        WheelRide x = Check.told("w4,9;l1,1;");
        doc.due("nothing asked", x.trace(0), NONE);
        x.ask(0, 0);
        int[] due = {12, 11, 10, 24, 21, 20};
        for (int i = 0; i < 6; i++) {
            doc.due("number " + i, x.trace(i), due[i]);
        }
        for (int i : new int[] {6, 15, 16, 17, -1, LEAST, MOST}) {
            doc.due("number " + i, x.trace(i), NONE);
        }
        x.steps(1);
        Check.read(x, "w4,9;f1,1;");
        doc.due("it stays", x.trace(5), 20);
    }

    private void count() {
        doc.under("Promise 37:");
        doc.says("How many: 0 ROWS, 1 PARTIES, 2 GONDOLAS, 3 STEP, 4 BALLAST of all, 5 RIDDEN of all, 6 ACTS that can be undone, 7 bytes"
            + " on the tape.");
        WheelRide x = Check.told("w12,99;g1,1;l1,1;f1,4;f1,4;f1,4;f1,4;");
        for (int row = 0; row <= 7; row++) {
            x.row(row, 0, 0);
        }
        for (int g = 0; g < 12; g++) {
            x.ballast(g, 9);
        }
        x.steps(14);
        Check.feed(x, "abcde");
        int[] due = {8, 6, 12, 14, 108, 3, 24, 5};
        for (int what = 0; what <= 7; what++) {
            doc.due("count(" + what + ")", x.count(what), due[what]);
        }
        doc.due("one of them is OFF, the others are ABOARD", x.stand(7), 1);
        doc.says("BAD.");
        bad("what", 0, 7, x::count);
        bad("what, no WHEEL", 0, 7, what -> new WheelRide().count(what));
    }

    private void status() {
        doc.under("Promise 38:");
        doc.says("Of the latest call with a ROW, or as(), that was not BAD, STATE, FULL: the number of its FINDING; 0: it had none, or there"
            + " was none.");
        WheelRide x = Check.told("w4,9;f1,1;");
        doc.due("there was none", x.status(), 0);
        statusBehind(x, "row SIZE", x.row(0, 0, -1), 4);
        statusBehind(x, "row BAD", x.row(8, 0, 1), 4);
        statusBehind(x, "row", x.row(0, 0, 1), 0);
        statusBehind(x, "set NULL", x.set(1, 0, 0), 1);
        statusBehind(x, "set BAD", x.set(8, 0, 0), 1);
        statusBehind(x, "set", x.set(0, 0, 0), 0);
        statusBehind(x, "set PLACE", x.set(0, 1, 0), 2);
        statusBehind(x, "copy", x.copy(0, 0, 0, 0, 1), 0);
        x.row(1, 1, 1);
        statusBehind(x, "copy STORE", x.copy(0, 0, 1, 0, 1), 5);
        statusBehind(x, "copy BAD", x.copy(0, 0, 8, 0, 1), 5);
        statusBehind(x, "copy PLACE", x.copy(0, 0, 0, 1, 1), 2);
        statusBehind(x, "copy NULL", x.copy(0, 0, 7, 0, 1), 1);
        statusBehind(x, "drop", x.drop(1), 0);
        statusBehind(x, "drop NULL", x.drop(1), 1);
        statusBehind(x, "drop BAD", x.drop(8), 1);
        statusBehind(x, "as", x.as(0, 1), 0);
        statusBehind(x, "as KIND", x.as(0, 5), 3);
        statusBehind(x, "as BAD", x.as(0, 6), 3);
        statusBehind(x, "who", x.who(0, 4, 0, 0, 1), 0);
        statusBehind(x, "who PLACE", x.who(0, 0, 0, 1, 1), 2);
        statusBehind(x, "who BAD", x.who(0, 5, 0, 1, 1), 2);
        statusBehind(x, "who NULL", x.who(0, 0, 1, 0, 1), 1);
        statusByOthers(x);
    }

    private void statusBehind(WheelRide x, String call, int answer, int status) {
        doc.due("status() behind " + call + ", which answered " + answer, x.status(), status);
        doc.due("asked once more behind " + call, x.status(), status);
    }

    /** Calls without a ROW leave it as it is, whatever they answer. */
    private void statusByOthers(WheelRide x) {
        statusBehind(x, "feed", x.feed('w'), 1);
        statusBehind(x, "feed BAD", x.feed(256), 1);
        statusBehind(x, "wheel with a FAULT", x.wheel(), 1);
        statusBehind(x, "wheel", Check.read(x, "w4,9;g1,1;"), 1);
        statusBehind(x, "undo STATE", x.undo(), 1);
        statusBehind(x, "steps", x.steps(5), 1);
        statusBehind(x, "turnTo STATE", x.turnTo(1), 1);
        statusBehind(x, "ballast", x.ballast(0, 1), 1);
        statusBehind(x, "limit", x.limit(1), 1);
        statusBehind(x, "again", x.again(0), 1);
        statusBehind(x, "undo", x.undo(), 1);
        statusBehind(x, "order", x.order(1, 0), 1);
        statusBehind(x, "image", x.image(0), 1);
        statusBehind(x, "restore", x.restore(0), 1);
        statusBehind(x, "restore STATE", x.restore(1), 1);
        statusBehind(x, "kind", x.kind(0), 1);
        statusBehind(x, "ask", x.ask(0, 0), 1);
        statusBehind(x, "count BAD", x.count(8), 1);
    }
}
