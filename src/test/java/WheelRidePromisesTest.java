/** Each promise of the document by answers worked out by hand: ordinary inputs, edges, wrong inputs. */
public final class WheelRidePromisesTest {
    private static final int NONE = WheelRide.NONE, BAD = WheelRide.BAD, STATE = WheelRide.STATE, FULL = WheelRide.FULL;
    private static final int NULL = -1000011, PLACE = -1000012, KIND = -1000013, SIZE = -1000014, STORE = -1000015;
    private static final int[] WRONG_ROWS = {-1, 8, Integer.MIN_VALUE, Integer.MAX_VALUE};

    private static final Check CHECK = new Check();

    private static void due(String call, long got, long want) {
        CHECK.due(call, got, want);
    }

    public static void main(String[] args) {
        newObject();
        row();
        set();
        setLanes();
        copy();
        copyFindings();
        drop();
        feed();
        wheel();
        wheelFaults();
        wheelKeepsOldOne();
        fault();
        undo();
        undoRing();
        steps();
        stepsOfKinds();
        stepsSticking();
        stepsFull();
        turnTo();
        ballast();
        limit();
        again();
        party();
        gondola();
        stand();
        ahead();
        leans();
        when();
        first();
        order();
        orderForgets();
        load();
        bear();
        sets();
        share();
        byTurns();
        who();
        whoFindings();
        away();
        drawn();
        image();
        restore();
        kind();
        as();
        ask();
        trace();
        count();
        status();
        CHECK.end();
    }

    // Promise 1
    private static void newObject() {
        due("NONE", WheelRide.NONE, -1000000);
        due("BAD", WheelRide.BAD, -1000001);
        due("STATE", WheelRide.STATE, -1000002);
        due("FULL", WheelRide.FULL, -1000003);
        WheelRide x = new WheelRide();
        for (int what = 0; what <= 7; what++) {
            due("1 new: count(" + what + ")", x.count(what), 0);
        }
        due("1 new: stand", x.stand(0), STATE);
        due("1 new: stand of nothing", x.stand(99), STATE);
        due("1 new: steps", x.steps(0), STATE);
        due("1 new: limit", x.limit(0), STATE);
        due("1 new: leans", x.leans(-1), STATE);
        due("1 new: first", x.first(2), STATE);
        due("1 new: order", x.order(0, -2), STATE);
        due("1 new: load", x.load(0, 2), STATE);
        due("1 new: bear", x.bear(0), STATE);
        due("1 new: sets", x.sets(-1, 3), STATE);
        due("1 new: byTurns", x.byTurns(5, 0), STATE);
        due("1 new: away", x.away(-1, 11, 2), STATE);
        due("1 new: drawn", x.drawn(-1, 0, 2), STATE);
        due("1 new: undo", x.undo(), STATE);
        due("1 new: image", x.image(0), STATE);
        due("1 new: restore", x.restore(1), STATE);
        due("1 new: party", x.party(0, 0), BAD);
        due("1 new: gondola", x.gondola(0, 0), BAD);
        due("1 new: turnTo", x.turnTo(0), BAD);
        due("1 new: ballast", x.ballast(0, 0), BAD);
        due("1 new: again", x.again(0), BAD);
        due("1 new: ahead", x.ahead(0, 0, 0), BAD);
        due("1 new: when", x.when(0, 1), BAD);
        due("1 new: share", x.share(0, 0), BAD);
        due("1 new: who", x.who(0, 0, 0, 0, 1), BAD);
        due("1 new: kind", x.kind(0), BAD);
        due("1 new: as", x.as(0, 0), BAD);
        due("1 new: ask", x.ask(0, 0), BAD);
        due("1 new: trace", x.trace(0), NONE);
        due("1 new: fault", x.fault(), 0);
        due("1 new: status", x.status(), 0);
    }

    // Promise 2
    private static void row() {
        WheelRide x = new WheelRide();
        due("2 row(0, 0, 40)", x.row(0, 0, 40), 40);
        due("2 row(7, 2, 0)", x.row(7, 2, 0), 0);
        due("2 count(0)", x.count(0), 2);
        for (int wrong : WRONG_ROWS) {
            due("2 row(" + wrong + ")", x.row(wrong, 0, 1), BAD);
        }
        due("2 lane -1", x.row(0, -1, 1), BAD);
        due("2 lane 3", x.row(0, 3, 1), BAD);
        due("2 n 41", x.row(0, 0, 41), BAD);
        due("2 BAD is ahead of SIZE", x.row(8, 0, -1), BAD);
        due("2 BAD lane is ahead of SIZE", x.row(0, 3, -1), BAD);
        due("2 SIZE", x.row(0, 1, -1), SIZE);
        due("2 SIZE of the least", x.row(0, 1, Integer.MIN_VALUE), SIZE);
        due("2 what is found changes nothing", x.drop(0), 40);
        x.row(3, 2, 2);
        x.set(3, 1, 5);
        due("2 in place of what is there", x.row(3, 1, 3), 3);
        x.row(4, 1, 3);
        due("2 ITEMS are 0 at first", x.copy(3, 0, 4, 0, 3), 3);
        x.set(4, 0, 9);
        due("2 still one ROW", x.count(0), 3);
        due("2 lane is the new one", x.set(3, 1, 65536 + 7), 7);
        Check.read(x, "w4,9;f3,2;");
        x.row(5, 2, 2);
        x.set(5, 0, -6);
        x.set(5, 1, -6);
        due("2 ITEMS as set", x.who(0, 1, 5, 0, 1), 8);
        x.row(5, 2, 2);
        due("2 ITEM 0 is 0 anew", x.who(0, 1, 5, 0, 1), 0);
        due("2 ITEM 1 is 0 anew", x.who(0, 1, 5, 1, 1), 0);
    }

    // Promise 3
    private static void set() {
        WheelRide x = new WheelRide();
        x.row(2, 2, 3);
        due("3 set", x.set(2, 0, 12345678), 12345678);
        due("3 set the last", x.set(2, 2, -1), -1);
        due("3 PLACE -1", x.set(2, -1, 0), PLACE);
        due("3 PLACE 3", x.set(2, 3, 0), PLACE);
        due("3 PLACE far", x.set(2, Integer.MAX_VALUE, 0), PLACE);
        due("3 PLACE far below", x.set(2, Integer.MIN_VALUE, 0), PLACE);
        due("3 NULL is ahead of PLACE", x.set(1, -1, 0), NULL);
        for (int wrong : WRONG_ROWS) {
            due("3 set(" + wrong + ")", x.set(wrong, 0, 0), BAD);
        }
        x.row(5, 0, 0);
        due("3 PLACE of an empty ROW", x.set(5, 0, 0), PLACE);
    }

    private static void setLanes() {
        WheelRide x = new WheelRide();
        x.row(0, 0, 1);
        x.row(1, 1, 1);
        x.row(2, 2, 1);
        due("3 byte 127", x.set(0, 0, 127), 127);
        due("3 byte 128", x.set(0, 0, 128), -128);
        due("3 byte 256", x.set(0, 0, 256), 0);
        due("3 byte -129", x.set(0, 0, -129), 127);
        due("3 short 32767", x.set(1, 0, 32767), 32767);
        due("3 short 32768", x.set(1, 0, 32768), -32768);
        due("3 short 65537", x.set(1, 0, 65537), 1);
        due("3 int least", x.set(2, 0, Integer.MIN_VALUE), Integer.MIN_VALUE);
        due("3 int most", x.set(2, 0, Integer.MAX_VALUE), Integer.MAX_VALUE);
    }

    // Promise 4. What a ROW holds is told by who(): weights that fit a LEAN of -2, -4, .. in the first STEP.
    private static int weightTold(WheelRide x, int row, int i) {
        int bits = x.who(0, 1, row, i, 1);
        return bits <= 0 ? bits : Integer.numberOfTrailingZeros(bits);
    }

    private static void copy() {
        WheelRide x = Check.told("w4,9;f3,2;");
        x.row(0, 2, 5);
        for (int i = 0; i < 5; i++) {
            x.set(0, i, -2 * (i + 1));
        }
        x.row(1, 2, 4);
        due("4 copy", x.copy(0, 2, 1, 1, 3), 3);
        due("4 item 0 stays", weightTold(x, 1, 0), 0);
        due("4 item 1", weightTold(x, 1, 1), 3);
        due("4 item 3", weightTold(x, 1, 3), 5);
        due("4 within one ROW, up", x.copy(0, 0, 0, 1, 4), 4);
        int[] up = {1, 1, 2, 3, 4};
        for (int i = 0; i < 5; i++) {
            due("4 as they were ahead, up " + i, weightTold(x, 0, i), up[i]);
        }
        due("4 within one ROW, down", x.copy(0, 2, 0, 0, 3), 3);
        int[] down = {2, 3, 4, 3, 4};
        for (int i = 0; i < 5; i++) {
            due("4 as they were ahead, down " + i, weightTold(x, 0, i), down[i]);
        }
        due("4 none at the end", x.copy(0, 5, 1, 4, 0), 0);
        due("4 all", x.copy(1, 0, 0, 1, 4), 4);
    }

    private static void copyFindings() {
        WheelRide x = new WheelRide();
        x.row(0, 0, 4);
        x.row(1, 0, 3);
        x.row(2, 1, 4);
        for (int wrong : WRONG_ROWS) {
            due("4 from " + wrong, x.copy(wrong, 0, 0, 0, 0), BAD);
            due("4 to " + wrong, x.copy(0, 0, wrong, 0, 0), BAD);
            due("4 BAD ahead of NULL", x.copy(3, 0, wrong, 0, 0), BAD);
        }
        due("4 NULL from", x.copy(3, 0, 0, 0, 0), NULL);
        due("4 NULL to", x.copy(0, 0, 3, 0, 0), NULL);
        due("4 NULL ahead of PLACE", x.copy(0, -1, 3, 0, 0), NULL);
        due("4 STORE", x.copy(0, 0, 2, 0, 1), STORE);
        due("4 STORE, none", x.copy(0, 0, 2, 0, 0), STORE);
        due("4 STORE ahead of PLACE", x.copy(0, 0, 2, 0, 99), STORE);
        due("4 PLACE i", x.copy(0, -1, 1, 0, 1), PLACE);
        due("4 PLACE j", x.copy(0, 0, 1, -1, 1), PLACE);
        due("4 PLACE n", x.copy(0, 0, 1, 0, -1), PLACE);
        due("4 PLACE end of a", x.copy(0, 2, 1, 0, 3), PLACE);
        due("4 PLACE end of b", x.copy(0, 0, 1, 0, 4), PLACE);
        due("4 PLACE beyond a, none", x.copy(0, 5, 1, 0, 0), PLACE);
        due("4 PLACE beyond b, none", x.copy(0, 0, 1, 4, 0), PLACE);
        due("4 PLACE wraps", x.copy(0, 1, 1, 1, Integer.MAX_VALUE), PLACE);
        due("4 PLACE i wraps", x.copy(0, Integer.MAX_VALUE, 1, 0, 1), PLACE);
        due("4 PLACE j wraps", x.copy(0, 0, 1, Integer.MAX_VALUE, 1), PLACE);
    }

    // Promise 5
    private static void drop() {
        WheelRide x = new WheelRide();
        x.row(0, 1, 17);
        x.row(7, 0, 0);
        due("5 drop", x.drop(0), 17);
        due("5 missing from now on", x.drop(0), NULL);
        due("5 set behind it", x.set(0, 0, 0), NULL);
        due("5 empty ROW", x.drop(7), 0);
        due("5 count", x.count(0), 0);
        for (int wrong : WRONG_ROWS) {
            due("5 drop(" + wrong + ")", x.drop(wrong), BAD);
        }
    }

    // Promise 6
    private static void feed() {
        WheelRide x = new WheelRide();
        due("6 -1", x.feed(-1), BAD);
        due("6 256", x.feed(256), BAD);
        for (int i = 1; i <= 100; i++) {
            due("6 byte " + i, x.feed(i == 50 ? 0 : 255), i);
        }
        due("6 FULL", x.feed(119), FULL);
        due("6 BAD ahead of FULL", x.feed(256), BAD);
        due("6 bytes", x.count(7), 100);
        x.wheel();
        due("6 empty then", x.feed(119), 1);
    }

    // Promise 7
    private static void wheel() {
        WheelRide x = new WheelRide();
        due("7 one party", Check.read(x, "w4,1;f1,1;"), 1);
        due("7 six parties", Check.read(x, "w12,99;f9,4;l9,4;g9,4;s9,4;c9,4;f1,1;"), 6);
        due("7 gondolas", x.count(2), 12);
        due("7 tape is empty", x.count(7), 0);
        due("7 two figures", Check.read(x, "w04,01;c09,04;"), 1);
        due("7 gondolas by two figures", x.stand(0), 4);
        due("7 limit by two figures", x.stand(2), 1);
        due("7 weight by two figures", x.party(0, 2), 9);
        due("7 rounds by two figures", x.party(0, 3), 4);
        x.limit(9);
        x.steps(3);
        x.ballast(1, 5);
        due("7 foretold of the one before", x.leans(2), -18);
        due("7 another one", Check.read(x, "w6,7;s2,3;f4,1;"), 2);
        due("7 STEP 0", x.count(3), 0);
        due("7 no BALLAST", x.count(4), 0);
        due("7 no ACT", x.count(6), 0);
        due("7 bottom", x.stand(1), 0);
        due("7 all WAIT", x.stand(5), 3);
        due("7 undo", x.undo(), STATE);
    }

    private static void faultOf(String text, int place, int number) {
        WheelRide x = new WheelRide();
        due("7 " + text, Check.read(x, text), -1000100 - place);
        due("8 " + text, x.fault(), number);
        due("7 tape behind " + text, x.count(7), 0);
        due("7 no WHEEL behind " + text, x.count(1), 0);
    }

    private static void wheelFaults() {
        faultOf("", 0, 1);
        faultOf("w", 1, 1);
        faultOf("x4,1;f1,1;", 0, 1);
        faultOf("W4,1;f1,1;", 0, 1);
        faultOf(" w4,1;f1,1;", 0, 1);
        faultOf("4,1;f1,1;", 0, 1);
        faultOf("w,1;f1,1;", 1, 1);
        faultOf("w3,1;f1,1;", 1, 2);
        faultOf("w13,1;f1,1;", 1, 2);
        faultOf("w00,1;f1,1;", 1, 2);
        faultOf("w004,1;f1,1;", 1, 1);
        faultOf("w1234,1;f1,1;", 1, 1);
        faultOf("w4;1;f1,1;", 2, 1);
        faultOf("w4,0;f1,1;", 3, 2);
        faultOf("w4,100;f1,1;", 3, 1);
        faultOf("w4,;f1,1;", 3, 1);
        faultOf("w4,1,f1,1;", 4, 1);
        faultOf("w4,1;", 5, 1);
        faultOf("w4,1;w4,1;", 5, 1);
        faultOf("w4,1;f", 6, 1);
        faultOf("w4,1;ff1,1;", 6, 1);
        faultOf("w4,1;f0,1;", 6, 2);
        faultOf("w4,1;f10,1;", 6, 2);
        faultOf("w4,1;f100,1;", 6, 1);
        faultOf("w4,1;f1 ,1;", 7, 1);
        faultOf("w4,1;f1,0;", 8, 2);
        faultOf("w4,1;f1,5;", 8, 2);
        faultOf("w4,1;f1,1", 9, 1);
        faultOf("w4,1;f1,1;;", 10, 1);
        faultOf("w4,1;f1,1;x", 10, 1);
        faultOf("w4,1;f1,1;7", 10, 1);
        faultOf("w4,1;f1,1;123", 10, 1);
        faultOf("w4,1;f1,1;" + (char) 255, 10, 1);
        faultOf("w3,1;x", 1, 2);
        String six = "w4,1;f1,1;l1,1;g1,1;s1,1;c1,1;f1,1;";
        faultOf(six + "f1,1;", six.length(), 3);
        faultOf(six + "c", six.length(), 3);
        faultOf(six + "w", six.length(), 1);
        faultOf(six + "x", six.length(), 1);
        faultOf(six + "1", six.length(), 1);
    }

    private static void wheelKeepsOldOne() {
        WheelRide x = Check.told("w5,9;f2,2;g3,1;");
        x.steps(2);
        x.ballast(3, 4);
        due("7 faulty", Check.read(x, "w5,9;f2,2;q"), -1000110);
        due("7 all stays: parties", x.count(1), 2);
        due("7 all stays: STEP", x.count(3), 2);
        due("7 all stays: BALLAST", x.count(4), 4);
        due("7 all stays: ACTS", x.undo(), 2);
        due("7 all stays: bottom", x.stand(1), 2);
    }

    // Promise 8
    private static void fault() {
        WheelRide x = new WheelRide();
        due("8 before one", x.fault(), 0);
        Check.read(x, "w3,1;");
        due("8 two", x.fault(), 2);
        Check.read(x, "w4,1;f1,1;");
        due("8 the latest stays", x.fault(), 2);
        Check.read(x, "q");
        due("8 one", x.fault(), 1);
    }

    // Promise 9
    private static void undo() {
        WheelRide x = Check.told("w4,1;c9,1;f1,1;");
        due("9 none", x.undo(), STATE);
        x.ballast(1, 3);
        x.limit(9);
        x.turnTo(2);
        x.steps(3);
        due("9 acts", x.count(6), 6);
        due("9 bottom", x.stand(1), 1);
        due("9 a STEP", x.undo(), 5);
        due("9 STEP", x.count(3), 2);
        due("9 bottom before", x.stand(1), 0);
        due("9 a STEP more", x.undo(), 4);
        due("9 party 1 waits again", x.party(1, 0), 0);
        due("9 WAITED as it was", x.party(1, 5), 1);
        due("9 first STEP", x.undo(), 3);
        due("9 all WAIT", x.stand(5), 3);
        due("9 by hand", x.undo(), 2);
        due("9 bottom at first", x.stand(1), 0);
        due("9 limit", x.undo(), 1);
        due("9 limit at first", x.stand(2), 1);
        due("9 ballast", x.undo(), 0);
        due("9 ballast at first", x.gondola(1, 2), 0);
        due("9 no more", x.undo(), STATE);
        WheelRide y = Check.told("w4,1;f9,1;c1,1;");
        y.steps(2);
        due("9 gone", y.party(1, 0), 3);
        due("9 comes again", y.again(1), 2);
        due("9 undo again()", y.undo(), 2);
        due("9 gone as before", y.party(1, 0), 3);
        due("9 WAITED as before", y.party(1, 5), 2);
    }

    private static void undoRing() {
        WheelRide x = Check.told("w12,99;f1,4;");
        x.ballast(0, 1);
        x.steps(24);
        due("9 24 at most", x.count(6), 24);
        x.ballast(0, 2);
        due("9 the oldest is forgotten", x.count(6), 24);
        for (int left = 23; left >= 0; left--) {
            due("9 ring " + left, x.undo(), left);
        }
        due("9 ring empty", x.undo(), STATE);
        due("9 the oldest STEP stays", x.count(3), 1);
        due("9 the oldest BALLAST stays", x.gondola(0, 2), 1);
        x.steps(1);
        due("9 kept anew", x.undo(), 0);
    }

    // Promise 10. With 4 GONDOLAS PULL is 0, 2, 0, -2.
    private static void steps() {
        WheelRide x = Check.told("w4,99;f3,1;l5,2;");
        due("10 0", x.steps(0), BAD);
        due("10 -1", x.steps(-1), BAD);
        due("10 25", x.steps(25), BAD);
        due("10 most", x.steps(Integer.MAX_VALUE), BAD);
        due("10 the first", x.steps(1), 0);
        due("10 one gets in", x.party(0, 0), 1);
        due("10 the other WAITS", x.party(1, 5), 1);
        due("10 bottom 1", x.stand(1), 1);
        due("10 LEAN -6", x.stand(3), -6);
        due("10 the second", x.steps(1), 0);
        due("10 its GONDOLA", x.party(1, 1), 1);
        due("10 LEAN -10", x.stand(3), -10);
        due("10 two more", x.steps(2), 0);
        due("10 RIDDEN", x.party(0, 4), 1);
        due("10 LEAN 10", x.stand(3), 10);
        due("10 OFF", x.steps(1), 1);
        due("10 RIDDEN stays", x.party(0, 4), 1);
        due("10 an ACT each", x.count(6), 5);
        due("10 STEP", x.count(3), 5);
        due("10 lovers stay, nobody WAITS", x.steps(16), 1);
        due("10 lovers have RIDDEN 5", x.party(1, 4), 5);
        x.again(0);
        due("10 lovers get off, one WAITS", x.steps(1), 2);
        due("10 it gets in there", x.party(0, 1), 1);
        due("10 RIDDEN of lovers stays", x.party(1, 4), 5);
        due("10 24 STEPS", x.steps(24), 3);
    }

    private static void stepsOfKinds() {
        WheelRide x = Check.told("w4,99;g1,4;s1,2;c1,3;");
        due("10 giddy ones stay in the first round", x.steps(4), 0);
        due("10 critic lost patience", x.stand(8), 4);
        due("10 critic WAITED twice", x.party(2, 5), 2);
        due("10 giddy ones are OFF behind one round", x.steps(1), 1);
        due("10 a solitary one stays for two", x.steps(4), 1);
        due("10 a solitary one is OFF", x.steps(1), 3);
        WheelRide y = Check.told("w4,1;f9,1;s1,1;f1,1;");
        y.steps(4);
        due("10 a solitary one WAITS 4 times", y.party(1, 0), 0);
        y.steps(1);
        due("10 a solitary one is GONE by 5", y.party(1, 0), 3);
        y.steps(9);
        due("10 WAITED of one GONE stays", y.party(1, 5), 5);
        due("10 a family WAITS on", y.party(2, 5), 14);
        WheelRide z = Check.told("w4,2;c1,4;");
        z.steps(4);
        z.ballast(1, 5);
        due("10 LEAN 10, 5 times LIMIT", z.stand(3), 10);
        due("10 a critic gets off by it", z.steps(1), 1);
        z.undo();
        z.ballast(1, 4);
        due("10 LEAN 8", z.stand(3), 8);
        due("10 a critic stays by less", z.steps(1), 0);
        z.undo();
        z.ballast(1, 0);
        z.ballast(3, 5);
        due("10 LEAN -10", z.stand(3), -10);
        due("10 a critic gets off either way", z.steps(1), 1);
        WheelRide v = Check.told("w4,2;c1,4;");
        v.ballast(1, 5);
        due("10 a critic with RIDDEN 0 stays", v.steps(1), 0);
        due("10 it is ABOARD", v.party(0, 0), 1);
        v.turnTo(0);
        due("10 LEAN 10 again", v.stand(3), 10);
        due("10 RIDDEN 0 again", v.party(0, 4), 0);
        due("10 a critic without a round stays", v.steps(1), 0);
    }

    private static void stepsSticking() {
        WheelRide x = Check.told("w4,1;f5,1;f6,1;");
        due("10 LEAN -10 is IN BALANCE", x.steps(1), 0);
        due("10 it TURNED", x.stand(1), 1);
        x.steps(1);
        due("10 LEAN -12 would not be", x.stand(1), 1);
        due("10 STEP is 1 more, though it STUCK", x.count(3), 2);
        x.steps(3);
        due("10 it STICKS on", x.stand(1), 1);
        x.limit(2);
        x.steps(1);
        due("10 another LIMIT", x.stand(1), 2);
        WheelRide y = Check.told("w4,99;f1,4;");
        y.steps(4);
        y.turnTo(1);
        y.turnTo(0);
        due("10 RIDDEN stays by hand", y.party(0, 4), 1);
        WheelRide z = Check.told("w4,99;l1,1;");
        for (int i = 0; i < 20; i++) {
            z.steps(20);
        }
        due("10 RIDDEN is 99 at most", z.party(0, 4), 99);
        WheelRide v = Check.told("w4,1;f1,1;");
        v.ballast(2, 5);
        v.ballast(3, 1);
        v.steps(1);
        due("10 BALLAST and PARTY together", v.stand(3), 8);
    }

    private static void stepsFull() {
        WheelRide x = Check.told("w4,99;f1,1;");
        for (int i = 0; i < 41; i++) {
            x.steps(24);
        }
        due("10 STEP 984", x.count(3), 984);
        due("10 FULL", x.steps(16), FULL);
        due("10 FULL changes nothing", x.count(3), 984);
        due("10 BAD ahead of FULL", x.steps(25), BAD);
        due("10 999", x.steps(15), 1);
        due("10 STEP 999", x.count(3), 999);
        due("10 FULL by one", x.steps(1), FULL);
        due("10 foretold all the same", x.leans(60), 0);
        due("10 undone", x.undo(), 23);
        due("10 one more again", x.steps(1), 1);
    }

    // Promise 11
    private static void turnTo() {
        WheelRide x = Check.told("w4,1;f9,1;");
        x.steps(1);
        due("11 there", x.turnTo(0), STATE);
        due("11 -1", x.turnTo(-1), BAD);
        due("11 4", x.turnTo(4), BAD);
        due("11 3, out of balance", x.turnTo(3), 0);
        due("11 bottom", x.stand(1), 3);
        due("11 LEAN", x.stand(3), 18);
        due("11 not IN BALANCE", x.stand(4), 0);
        due("11 back", x.turnTo(0), 3);
        due("11 RIDDEN stays", x.party(0, 4), 0);
        due("11 no STEP", x.count(3), 1);
        due("11 ACTS", x.count(6), 3);
    }

    // Promise 12
    private static void ballast() {
        WheelRide x = Check.told("w4,1;f9,1;");
        due("12 first", x.ballast(3, 9), 0);
        due("12 then", x.ballast(3, 2), 9);
        due("12 none", x.ballast(3, 0), 2);
        due("12 10", x.ballast(3, 10), BAD);
        due("12 -1", x.ballast(3, -1), BAD);
        due("12 gondola 4", x.ballast(4, 1), BAD);
        due("12 gondola -1", x.ballast(-1, 1), BAD);
        due("12 ACTS", x.count(6), 3);
        x.ballast(1, 4);
        x.ballast(3, 1);
        due("12 LEAN", x.stand(3), 6);
    }

    // Promise 13
    private static void limit() {
        WheelRide x = Check.told("w4,1;f9,1;");
        due("13 99", x.limit(99), 1);
        due("13 1", x.limit(1), 99);
        due("13 0", x.limit(0), BAD);
        due("13 100", x.limit(100), BAD);
        due("13 stays", x.stand(2), 1);
        due("13 ACTS", x.count(6), 2);
    }

    // Promise 14
    private static void again() {
        WheelRide x = Check.told("w4,99;g1,1;f2,4;c1,1;");
        due("14 WAITS", x.again(0), STATE);
        x.steps(1);
        due("14 ABOARD", x.again(0), STATE);
        x.steps(4);
        due("14 -1", x.again(-1), BAD);
        due("14 3", x.again(3), BAD);
        due("14 GONE one", x.again(2), 4);
        due("14 OFF one", x.again(0), 5);
        due("14 RIDDEN", x.party(0, 4), 0);
        due("14 WAITED", x.party(2, 5), 0);
        x.steps(2);
        due("14 RANK by numbers: 0 first", x.party(0, 1), 2);
        due("14 the other one lost patience", x.party(2, 0), 3);
    }

    // Promise 15
    private static void party() {
        WheelRide x = Check.told("w8,5;f3,1;l5,2;g2,4;s7,1;c4,3;f1,2;");
        int[][] at = {{0, NONE, 3, 1, 0, 0}, {0, NONE, 5, 2, 0, 0}, {0, NONE, 2, 4, 0, 0},
                      {0, NONE, 7, 1, 0, 0}, {0, NONE, 4, 3, 0, 0}, {0, NONE, 1, 2, 0, 0}};
        for (int p = 0; p < 6; p++) {
            for (int what = 0; what < 6; what++) {
                due("15 party(" + p + ", " + what + ")", x.party(p, what), at[p][what]);
            }
        }
        due("15 6", x.party(6, 0), BAD);
        due("15 -1", x.party(-1, 0), BAD);
        due("15 what 6", x.party(0, 6), BAD);
        due("15 what -1", x.party(0, -1), BAD);
        x.steps(1);
        due("15 ABOARD", x.party(0, 0), 1);
        due("15 GONDOLA", x.party(0, 1), 0);
        due("15 WAITED", x.party(5, 5), 1);
        WheelRide y = Check.told("w4,99;g1,1;c1,1;c1,1;");
        y.steps(5);
        due("15 OFF", y.party(0, 0), 2);
        due("15 no GONDOLA", y.party(0, 1), NONE);
        due("15 RIDDEN", y.party(0, 4), 1);
        due("15 GONE", y.party(2, 0), 3);
        due("15 GONE has none", y.party(2, 1), NONE);
    }

    // Promise 16
    private static void gondola() {
        WheelRide x = Check.told("w5,99;f1,1;f2,1;");
        int[] pullOdd = {0, 3, 2, -2, -3};
        for (int g = 0; g < 5; g++) {
            due("16 PLACE " + g, x.gondola(g, 0), g);
            due("16 PULL " + g, x.gondola(g, 1), pullOdd[g]);
            due("16 BALLAST " + g, x.gondola(g, 2), 0);
            due("16 nobody in " + g, x.gondola(g, 3), NONE);
        }
        x.steps(2);
        x.ballast(4, 7);
        due("16 PLACE of the bottom one", x.gondola(2, 0), 0);
        due("16 PLACE behind it", x.gondola(1, 0), 4);
        due("16 PULL behind it", x.gondola(1, 1), -3);
        due("16 PARTY", x.gondola(1, 3), 1);
        due("16 BALLAST", x.gondola(4, 2), 7);
        due("16 5", x.gondola(5, 0), BAD);
        due("16 -1", x.gondola(-1, 0), BAD);
        due("16 what 4", x.gondola(0, 4), BAD);
        due("16 what -1", x.gondola(0, -1), BAD);
        WheelRide y = Check.told("w12,1;f1,1;");
        int[] pull = {0, 10, 16, 18, 16, 10, 0, -10, -16, -18, -16, -10};
        for (int g = 0; g < 12; g++) {
            due("16 PULL of 12: " + g, y.gondola(g, 1), pull[g]);
        }
    }

    // Promise 17
    private static void stand() {
        WheelRide x = Check.told("w4,2;g5,1;f4,4;c9,1;s1,1;");
        x.steps(5);
        int[] at = {4, 1, 2, 2, 1, 0, 10, 1, 4};
        for (int what = 0; what < 9; what++) {
            due("17 stand(" + what + ")", x.stand(what), at[what]);
        }
        due("17 9", x.stand(9), BAD);
        due("17 -1", x.stand(-1), BAD);
        x.ballast(2, 9);
        x.ballast(0, 0);
        due("17 LEAN", x.stand(3), 20);
        x.turnTo(3);
        due("17 LEAN by hand", x.stand(3), -20);
        due("17 IN BALANCE", x.stand(4), 1);
        x.limit(1);
        due("17 not IN BALANCE", x.stand(4), 0);
    }

    // Promise 18
    private static void ahead() {
        WheelRide x = Check.told("w4,99;f3,1;l5,2;c1,1;");
        due("18 now", x.ahead(0, 0, 0), 0);
        due("18 ABOARD", x.ahead(0, 1, 0), 1);
        due("18 GONDOLA", x.ahead(1, 2, 1), 1);
        due("18 no GONDOLA", x.ahead(1, 1, 1), NONE);
        due("18 RIDDEN", x.ahead(0, 4, 2), 1);
        due("18 OFF", x.ahead(0, 5, 0), 2);
        due("18 GONE", x.ahead(2, 2, 0), 3);
        due("18 WAITED", x.ahead(2, 60, 3), 2);
        due("18 far", x.ahead(1, 60, 2), 14);
        due("18 nothing changes", x.stand(5), 7);
        due("18 no STEP", x.count(3), 0);
        due("18 n 61", x.ahead(0, 61, 0), BAD);
        due("18 n -1", x.ahead(0, -1, 0), BAD);
        due("18 what 4", x.ahead(0, 0, 4), BAD);
        due("18 what -1", x.ahead(0, 0, -1), BAD);
        due("18 party 3", x.ahead(3, 0, 0), BAD);
        due("18 party -1", x.ahead(-1, 0, 0), BAD);
    }

    // Promise 19
    private static void leans() {
        WheelRide x = Check.told("w4,99;f3,1;l5,2;");
        int[] lean = {0, -6, -10, 6, 10, 0, -10, 0, 10, 0, -10};
        for (int n = 0; n < lean.length; n++) {
            due("19 leans(" + n + ")", x.leans(n), lean[n]);
        }
        due("19 -1", x.leans(-1), BAD);
        due("19 61", x.leans(61), BAD);
        due("19 60", x.leans(60), 10);
        due("19 nothing changes", x.stand(3), 0);
    }

    // Promise 20
    private static void when() {
        WheelRide x = Check.told("w4,99;f3,1;l5,2;c1,1;s1,4;");
        due("20 ABOARD", x.when(0, 1), 1);
        due("20 OFF", x.when(0, 2), 5);
        due("20 never GONE", x.when(0, 3), NONE);
        due("20 GONE", x.when(2, 3), 2);
        due("20 a solitary one ABOARD", x.when(3, 1), 3);
        due("20 lovers stay", x.when(1, 2), NONE);
        x.steps(5);
        due("20 OFF now", x.when(0, 2), 0);
        due("20 not ABOARD again", x.when(0, 1), NONE);
        due("20 how 0", x.when(0, 0), BAD);
        due("20 how 4", x.when(0, 4), BAD);
        due("20 party 4", x.when(4, 1), BAD);
        due("20 party -1", x.when(-1, 1), BAD);
        WheelRide y = Check.told("w12,99;f1,4;l1,4;f1,4;");
        due("20 behind 49", y.when(0, 2), 49);
        WheelRide z = Check.told("w12,99;f1,4;");
        z.turnTo(1);
        z.steps(1);
        z.undo();
        z.undo();
        due("20 once more", z.when(0, 2), 49);
        WheelRide far = Check.told("w12,99;g1,1;f1,4;f1,4;");
        far.steps(13);
        far.again(0);
        due("20 a party that comes again", far.when(0, 1), 3);
        due("20 and is OFF", far.when(0, 2), 15);
    }

    // Promise 21
    private static void first() {
        WheelRide x = Check.told("w4,1;f5,1;f6,1;");
        due("21 STICKS", x.first(0), 2);
        due("21 never OVER", x.first(1), NONE);
        due("21 2", x.first(2), BAD);
        due("21 -1", x.first(-1), BAD);
        x.steps(2);
        due("21 STICKS at once", x.first(0), 1);
        WheelRide y = Check.told("w4,99;f5,1;c6,1;g1,1;");
        due("21 never STICKS", y.first(0), NONE);
        due("21 OVER", y.first(1), 7);
        y.steps(7);
        due("21 OVER now", y.first(1), 0);
        due("21 nothing changes", y.count(3), 7);
    }

    // Promise 22
    private static void order() {
        WheelRide x = Check.told("w4,99;f1,4;g1,1;");
        due("22 one is OFF behind 5", x.order(5, -1), 1);
        due("22 giddy ones first", x.order(5, 0), 1);
        due("22 then the family", x.order(5, 1), 0);
        due("22 not so many", x.order(5, 2), NONE);
        due("22 far beyond", x.order(5, Integer.MAX_VALUE), NONE);
        due("22 none is OFF behind 4", x.order(4, -1), 0);
        due("22 of several the first", x.order(4, 0), 0);
        due("22 the second", x.order(4, 1), 1);
        due("22 n 0", x.order(0, 0), BAD);
        due("22 n 41", x.order(41, 0), BAD);
        due("22 k -2", x.order(5, -2), BAD);
        due("22 n 40", x.order(40, -1), 2);
        due("22 nothing changes", x.stand(5), 3);
        WheelRide y = Check.told("w4,99;f1,1;f1,4;");
        due("22 as many OFF", y.order(8, -1), 1);
        due("22 by RIDDEN", y.order(8, 0), 1);
        due("22 by RIDDEN, then", y.order(8, 1), 0);
        WheelRide z = Check.told("w4,99;f1,4;f1,4;g1,1;");
        z.steps(1);
        due("22 one is ABOARD", z.order(5, -1), 1);
        due("22 it keeps the first place", z.order(5, 0), 0);
        due("22 giddy ones", z.order(5, 1), 2);
        due("22 the other family", z.order(5, 2), 1);
        due("22 not so many as 4", z.order(5, 3), NONE);
    }

    private static void orderForgets() {
        WheelRide x = Check.told("w4,99;f1,4;g1,1;");
        due("22 before", x.order(5, 0), 1);
        due("22 for other STEPS", x.order(4, 0), 0);
        due("22 and back", x.order(5, 0), 1);
        x.limit(98);
        due("22 behind an ACT of no weight", x.order(5, 0), 1);
        x.steps(2);
        due("22 behind STEPS", x.order(5, 0), 0);
        x.undo();
        x.undo();
        due("22 behind undo", x.order(5, 0), 1);
        x.image(0);
        x.steps(2);
        due("22 behind STEPS again", x.order(5, 0), 0);
        x.restore(0);
        due("22 behind restore", x.order(5, 0), 1);
        Check.read(x, "w4,99;g1,1;f1,4;");
        due("22 behind another WHEEL", x.order(5, 0), 0);
        WheelRide y = Check.told("w4,1;g5,1;");
        due("22 OFF", y.order(5, -1), 1);
        y.ballast(0, 1);
        due("22 behind BALLAST it STICKS", y.order(5, -1), 0);
        y.turnTo(3);
        due("22 by hand from another GONDOLA it does not", y.order(5, -1), 1);
        y.turnTo(0);
        due("22 by hand back", y.order(5, -1), 0);
        y.limit(2);
        due("22 behind another LIMIT", y.order(5, -1), 1);
        y.steps(6);
        due("22 is OFF", y.order(1, -1), 1);
        y.again(0);
        due("22 has come again", y.order(1, -1), 0);
    }

    // Promise 23
    private static void load() {
        WheelRide x = Check.told("w4,1;f9,1;");
        due("23 which", x.load(1, 0), 24);
        due("23 how often", x.load(1, 1), 0);
        due("23 for three", x.load(3, 0), 24);
        due("23 what 2", x.load(1, 2), BAD);
        due("23 what -1", x.load(1, -1), BAD);
        due("23 n 0", x.load(0, 0), BAD);
        due("23 n 41", x.load(41, 0), BAD);
        due("23 n 40", x.load(40, 0), 24);
        x.ballast(2, 9);
        due("23 in place of what it has", x.load(1, 0), 1);
        due("23 nothing changes", x.gondola(2, 2), 9);
        WheelRide y = Check.told("w4,99;f9,1;");
        due("23 of several the first", y.load(40, 0), 1);
        WheelRide v = Check.told("w12,1;f9,1;");
        v.ballast(3, 9);
        v.ballast(4, 9);
        due("23 STICKS always", v.load(5, 1), 5);
        due("23 the first then", v.load(5, 0), 1);
    }

    // Promise 24
    private static void bear() {
        WheelRide x = Check.told("w4,99;f9,1;");
        due("24 one", x.bear(1), 2);
        due("24 forty", x.bear(40), 2);
        due("24 0", x.bear(0), BAD);
        due("24 41", x.bear(41), BAD);
        due("24 nothing changes", x.stand(2), 99);
        WheelRide y = Check.told("w12,1;f9,4;f9,4;f9,4;f9,4;f9,4;f9,4;");
        due("24 six of them", y.bear(40), 63);
        for (int g = 0; g < 5; g++) {
            y.ballast(g, 9);
        }
        due("24 one STEP", y.bear(1), 22);
        due("24 NONE", y.bear(40), NONE);
        WheelRide z = Check.told("w12,99;f9,4;f9,4;f9,4;f9,4;f9,4;f9,4;");
        z.steps(6);
        z.turnTo(11);
        z.ballast(3, 9);
        z.ballast(2, 9);
        z.ballast(4, 3);
        due("24 LEAN 984 would come", z.leans(1), 984);
        due("24 99", z.bear(1), 99);
        z.ballast(4, 4);
        due("24 LEAN 1000 would", z.bear(1), NONE);
    }

    // Promise 25
    private static void sets() {
        WheelRide x = Check.told("w4,99;f1,1;f2,1;f3,1;");
        due("25 how many", x.sets(3, 0), 2);
        due("25 in all", x.sets(3, 1), 0);
        due("25 in any", x.sets(3, 2), 7);
        due("25 one set", x.sets(5, 0), 1);
        due("25 in it", x.sets(5, 1), 6);
        due("25 in it, any", x.sets(5, 2), 6);
        due("25 the empty set", x.sets(0, 0), 1);
        due("25 none in it", x.sets(0, 1), 0);
        due("25 none in any", x.sets(0, 2), 0);
        due("25 no set", x.sets(7, 0), 0);
        due("25 no set: in all", x.sets(7, 1), 0);
        due("25 no set: in any", x.sets(7, 2), 0);
        due("25 54", x.sets(54, 0), 0);
        due("25 55", x.sets(55, 0), BAD);
        due("25 -1", x.sets(-1, 0), BAD);
        due("25 what 3", x.sets(3, 3), BAD);
        due("25 what -1", x.sets(3, -1), BAD);
        x.steps(4);
        due("25 ABOARD", x.sets(3, 0), 2);
        x.steps(1);
        due("25 one is OFF", x.sets(3, 0), 1);
        due("25 in all of them", x.sets(3, 1), 4);
        WheelRide y = Check.told("w4,99;f9,1;c9,1;c9,1;");
        y.steps(2);
        due("25 one is GONE", y.sets(9, 2), 3);
        WheelRide z = Check.told("w4,99;f9,1;f9,1;f9,1;f9,1;f9,1;f9,1;");
        due("25 all of six", z.sets(54, 1), 63);
        due("25 twenty", z.sets(27, 0), 20);
    }

    // Promise 26
    private static void share() {
        WheelRide x = Check.told("w4,99;g1,1;g1,1;g1,1;f9,4;");
        due("26 none is OFF", x.share(0, 10), 0);
        x.steps(7);
        due("26 what is over", x.share(0, 10), 4);
        due("26 cut", x.share(1, 10), 3);
        due("26 cut, too", x.share(2, 10), 3);
        due("26 one that is not OFF", x.share(3, 10), 0);
        due("26 1 over to the first", x.share(0, 2), 1);
        due("26 1 over to the second", x.share(1, 2), 1);
        due("26 not to the third", x.share(2, 2), 0);
        due("26 of none", x.share(0, 0), 0);
        due("26 of all", x.share(0, 999), 333);
        due("26 -1", x.share(0, -1), BAD);
        due("26 1000", x.share(0, 1000), BAD);
        due("26 party 4", x.share(4, 1), BAD);
        due("26 party -1", x.share(-1, 1), BAD);
        WheelRide y = Check.told("w4,99;f1,2;g1,1;");
        y.steps(9);
        due("26 by RIDDEN", y.share(0, 7), 5);
        due("26 by RIDDEN, then", y.share(1, 7), 2);
        WheelRide z = Check.told("w4,99;f1,4;g1,1;g1,1;");
        z.steps(8);
        due("26 over to the first that is OFF", z.share(1, 3), 2);
        due("26 the next one", z.share(2, 3), 1);
    }

    // Promise 27
    private static void byTurns() {
        WheelRide x = Check.told("w4,99;f1,1;");
        due("27 no turn", x.byTurns(0, 4), 1);
        due("27 too few STEPS", x.byTurns(0, 3), 0);
        x.steps(3);
        due("27 one turn", x.byTurns(1, 1), 1);
        due("27 the other one moves it on", x.byTurns(2, 1), 0);
        due("27 nothing changes", x.stand(1), 3);
        due("27 n 5", x.byTurns(5, 1), BAD);
        due("27 n -1", x.byTurns(-1, 1), BAD);
        due("27 m 0", x.byTurns(0, 0), BAD);
        due("27 m 21", x.byTurns(0, 21), BAD);
        due("27 m 20", x.byTurns(4, 20), 1);
        WheelRide y = Check.told("w4,1;f8,1;");
        y.steps(1);
        y.turnTo(2);
        due("27 it STICKS", y.byTurns(0, 2), 0);
        due("27 BALLAST helps", y.byTurns(1, 2), 1);
        due("27 the other one can't", y.byTurns(2, 2), 1);
        due("27 no BALLAST stays", y.count(4), 0);
        y.ballast(2, 8);
        y.limit(2);
        due("27 9 at most", y.byTurns(1, 2), 1);
    }

    // Promise 28
    private static void who() {
        WheelRide x = Check.told("w4,9;f3,2;");
        x.row(0, 2, 14);
        x.set(0, 1, -6);
        due("28 KINDS", x.who(0, 0, 0, 1, 1), 62);
        due("28 WEIGHTS", x.who(0, 1, 0, 1, 1), 8);
        due("28 MEANT ROUNDS", x.who(0, 2, 0, 1, 1), 30);
        due("28 LIMITS", x.who(0, 3, 0, 1, 1), 99);
        due("28 the least", x.who(0, 4, 0, 1, 1), 1);
        due("28 no KIND", x.who(0, 0, 0, 0, 1), 0);
        due("28 no LIMIT", x.who(0, 3, 0, 0, 1), 0);
        due("28 no least", x.who(0, 4, 0, 0, 1), NONE);
        WheelRide y = Check.told("w4,9;f9,2;");
        y.row(1, 0, 2);
        due("28 STICKS by LIMIT 1 alone", y.who(0, 3, 1, 0, 1), 1);
        due("28 which is 1", y.who(0, 4, 1, 0, 1), 1);
        y.set(1, 0, -18);
        due("28 by all others", y.who(0, 3, 1, 0, 2), 98);
        due("28 of which 2 is least", y.who(0, 4, 1, 0, 2), 2);
        WheelRide z = Check.told("w4,99;f1,2;");
        z.row(0, 0, 6);
        z.steps(4);
        z.set(0, 0, -2);
        z.set(0, 2, 2);
        due("28 who stays behind a round: family, lovers, solitary, critic", z.who(0, 0, 0, 0, 4), 1 << 1 | 1 << 2 | 1 << 4 | 1 << 5);
        due("28 ROUNDS 2 to 4", z.who(0, 2, 0, 0, 4), 28);
        due("28 WEIGHT 1", z.who(0, 1, 0, 0, 4), 2);
        z.set(0, 0, 0);
        z.set(0, 2, 0);
        due("28 who gets off", z.who(0, 0, 0, 0, 4), 1 << 3);
        due("28 ROUNDS 1", z.who(0, 2, 0, 0, 4), 2);
        due("28 nothing changes", z.kind(0), 1);
    }

    private static void whoFindings() {
        WheelRide x = Check.told("w4,9;f3,2;");
        x.row(0, 0, 14);
        due("28 NULL", x.who(0, 0, 1, 0, 1), NULL);
        due("28 NULL ahead of PLACE", x.who(0, 0, 1, -1, 1), NULL);
        due("28 PLACE -1", x.who(0, 0, 0, -1, 1), PLACE);
        due("28 PLACE beyond", x.who(0, 0, 0, 3, 12), PLACE);
        due("28 PLACE wraps", x.who(0, 0, 0, Integer.MAX_VALUE, 12), PLACE);
        due("28 up to the end", x.who(0, 3, 0, 2, 12), 0);
        due("28 n 0", x.who(0, 0, 0, 0, 0), BAD);
        due("28 n 13", x.who(0, 0, 0, 0, 13), BAD);
        due("28 BAD n ahead of NULL", x.who(0, 0, 1, 0, 13), BAD);
        due("28 which 5", x.who(0, 5, 0, 0, 1), BAD);
        due("28 which -1", x.who(0, -1, 0, 0, 1), BAD);
        due("28 party 1", x.who(1, 0, 0, 0, 1), BAD);
        due("28 party -1", x.who(-1, 3, 0, 0, 1), BAD);
        for (int wrong : WRONG_ROWS) {
            due("28 row " + wrong, x.who(0, 0, wrong, 0, 1), BAD);
        }
    }

    // Promise 29
    private static void fraction(WheelRide x, int n, int p, long above, long below) {
        due("29 above away(" + n + ", " + p + ")", x.away(n, p, 0), above);
        due("29 below away(" + n + ", " + p + ")", x.away(n, p, 1), below);
    }

    private static void away() {
        WheelRide x = Check.told("w4,1;f9,1;f1,1;");
        fraction(x, 1, 5, 1, 2);
        fraction(x, 2, 3, 3, 10);
        fraction(x, 1, 0, 0, 1);
        fraction(x, 40, 10, 1, 1);
        fraction(x, 0, 4, 1, 1);
        due("29 nothing changes", x.stand(5), 3);
        due("29 n -1", x.away(-1, 0, 0), BAD);
        due("29 n 41", x.away(41, 0, 0), BAD);
        due("29 p 11", x.away(1, 11, 0), BAD);
        due("29 p -1", x.away(1, -1, 0), BAD);
        due("29 what 2", x.away(1, 1, 2), BAD);
        due("29 what -1", x.away(1, 1, -1), BAD);
        WheelRide y = Check.told("w4,1;f9,1;f9,1;");
        fraction(y, 1, 3, 9, 100);
        y.steps(1);
        fraction(y, 1, 10, 0, 1);
        WheelRide z = Check.told("w4,1;f9,1;f9,1;f9,1;f9,1;f9,1;f9,1;");
        fraction(z, 40, 9, 531441, 1000000);
        fraction(z, 1, 4, 64, 15625);
    }

    // Promise 30. By 7 X is 117649, 1977326743, 621132276, 452154665, 1566311569, 1143995257, 707192808, 1615021558.
    private static void drawn() {
        WheelRide x = Check.told("w4,99;g1,1;");
        due("30 none", x.drawn(0, 7, 1), 0);
        due("30 RIDDEN", x.drawn(5, 7, 1), 1);
        due("30 comes again", x.drawn(6, 7, 1), 0);
        due("30 never STUCK", x.drawn(60, 7, 0), 0);
        due("30 nothing changes", x.count(3), 0);
        WheelRide y = Check.told("w4,1;g1,1;");
        due("30 not yet", y.drawn(2, 7, 0), 0);
        due("30 BALLAST 6 on the third day", y.drawn(3, 7, 0), 1);
        due("30 it STICKS on", y.drawn(8, 7, 0), 6);
        due("30 RIDDEN at last", y.drawn(8, 7, 1), 0);
        due("30 no BALLAST stays", y.count(4), 0);
        due("30 n -1", y.drawn(-1, 7, 0), BAD);
        due("30 n 61", y.drawn(61, 7, 0), BAD);
        due("30 seed 0", y.drawn(1, 0, 0), BAD);
        due("30 seed 1000000", y.drawn(1, 1000000, 0), BAD);
        due("30 seed 999999", y.drawn(0, 999999, 0), 0);
        due("30 seed 1", y.drawn(0, 1, 0), 0);
        due("30 what 2", y.drawn(1, 7, 2), BAD);
        due("30 what -1", y.drawn(1, 7, -1), BAD);
    }

    // Promise 31
    private static void image() {
        WheelRide x = new WheelRide();
        due("31 BAD ahead of STATE", x.image(2), BAD);
        due("31 no WHEEL", x.image(1), STATE);
        Check.read(x, "w4,9;f1,1;");
        due("31 0", x.image(0), 1);
        due("31 1", x.image(1), 1);
        due("31 -1", x.image(-1), BAD);
        due("31 2", x.image(2), BAD);
        due("31 no ACT", x.count(6), 0);
    }

    // Promise 32
    private static void restore() {
        WheelRide x = Check.told("w4,9;g1,1;f2,4;");
        due("32 none", x.restore(0), STATE);
        due("32 -1", x.restore(-1), BAD);
        due("32 2", x.restore(2), BAD);
        x.ballast(2, 5);
        x.steps(3);
        x.image(0);
        due("32 the other one", x.restore(1), STATE);
        x.steps(5);
        x.limit(7);
        x.ballast(2, 0);
        x.image(1);
        due("32 restore", x.restore(0), 1);
        due("32 no ACT", x.count(6), 0);
        due("32 undo", x.undo(), STATE);
        due("32 STEP", x.count(3), 3);
        due("32 bottom", x.stand(1), 3);
        due("32 limit", x.stand(2), 9);
        due("32 ballast", x.gondola(2, 2), 5);
        due("32 ABOARD", x.stand(6), 3);
        due("32 WAITED", x.party(1, 5), 1);
        Check.read(x, "w12,1;c9,4;");
        due("32 behind another WHEEL", x.restore(1), 1);
        due("32 parties", x.count(1), 2);
        due("32 gondolas", x.count(2), 4);
        due("32 OFF", x.stand(7), 1);
        due("32 RIDDEN", x.party(0, 4), 1);
        due("32 kind", x.kind(0), 3);
        x.steps(1);
        due("32 once more", x.restore(1), 1);
        due("32 STEP 8", x.count(3), 8);
    }

    // Promise 33
    private static void kind() {
        WheelRide x = Check.told("w4,9;f1,1;l1,1;g1,1;s1,1;c1,1;");
        for (int p = 0; p < 5; p++) {
            due("33 kind(" + p + ")", x.kind(p), p + 1);
        }
        due("33 5", x.kind(5), BAD);
        due("33 -1", x.kind(-1), BAD);
    }

    // Promise 34
    private static void as() {
        WheelRide x = Check.told("w4,9;f1,1;l1,1;g1,1;s1,1;c1,1;");
        int[] such = {1 | 1 << 1, 1 | 1 << 1 | 1 << 2, 1 | 1 << 1 | 1 << 3, 1 | 1 << 4, 1 | 1 << 4 | 1 << 5};
        for (int p = 0; p < 5; p++) {
            for (int kind = 0; kind <= 5; kind++) {
                boolean is = (such[p] >> kind & 1) == 1;
                due("34 as(" + p + ", " + kind + ")", x.as(p, kind), is ? p : KIND);
                due("34 status", x.status(), is ? 0 : 3);
            }
            due("34 kind -1", x.as(p, -1), BAD);
            due("34 kind 6", x.as(p, 6), BAD);
        }
        due("34 5", x.as(5, 0), BAD);
        due("34 -1", x.as(-1, 0), BAD);
    }

    private static void askDue(WheelRide x, int one, int what, int answer, int... trace) {
        due("35 ask(" + one + ", " + what + ")", x.ask(one, what), answer);
        for (int i = 0; i < trace.length; i++) {
            due("36 ask(" + one + ", " + what + ") trace " + i, x.trace(i), trace[i]);
        }
        due("36 ask(" + one + ", " + what + ") trace ends", x.trace(trace.length), NONE);
    }

    // Promise 35
    private static void ask() {
        WheelRide x = Check.told("w4,99;f3,4;l5,4;g7,1;s2,4;c8,4;");
        x.steps(1);
        x.again(4);
        x.turnTo(0);
        askDue(x, 0, 0, 3 + 0, 11, 10, 21, 20);
        askDue(x, 1, 0, -(5 + 2), 12, 11, 10, 24, 21, 20);
        askDue(x, 2, 0, 7 + 2 - 1000, 11, 10, 22, 21, 20);
        askDue(x, 3, 0, -98, 13, 10);
        askDue(x, 4, 0, -184, 14, 13, 10);
        askDue(x, 0, 1, 0, 21, 20);
        askDue(x, 1, 1, 2, 24, 21, 20);
        askDue(x, 2, 1, 2 - 1000, 22, 21, 20);
        askDue(x, 3, 1, 3 + 98, 23, 20, 13, 10);
        askDue(x, 4, 1, 4 + 184, 23, 20, 14, 13, 10);
        due("35 what 2", x.ask(0, 2), BAD);
        due("35 what -1", x.ask(0, -1), BAD);
        due("35 5", x.ask(5, 0), BAD);
        due("35 -1", x.ask(-1, 0), BAD);
        due("35 BAD changes no trace", x.trace(4), 10);
        WheelRide y = Check.told("w4,99;l5,4;f3,4;");
        y.steps(9);
        due("35 RIDDEN", y.party(0, 4), 2);
        askDue(y, 0, 1, 4, 24, 21, 20);
        askDue(y, 0, 0, -9, 12, 11, 10, 24, 21, 20);
        askDue(y, 1, 1, 3, 21, 20);
        askDue(y, 1, 0, 6, 11, 10, 21, 20);
    }

    // Promise 36
    private static void trace() {
        WheelRide x = Check.told("w4,99;f3,4;l5,4;");
        due("36 nothing yet", x.trace(0), NONE);
        x.ask(1, 0);
        due("36 0", x.trace(0), 12);
        due("36 5", x.trace(5), 20);
        due("36 6", x.trace(6), NONE);
        due("36 -1", x.trace(-1), NONE);
        due("36 16", x.trace(16), NONE);
        due("36 most", x.trace(Integer.MAX_VALUE), NONE);
        due("36 least", x.trace(Integer.MIN_VALUE), NONE);
        x.ask(0, 1);
        due("36 empty ahead of it", x.trace(2), NONE);
    }

    // Promise 37
    private static void count() {
        WheelRide x = Check.told("w7,99;f3,4;l5,4;g1,1;");
        x.row(1, 0, 3);
        x.row(6, 0, 3);
        x.steps(8);
        x.ballast(2, 5);
        x.ballast(6, 7);
        Check.feed(x, "abc");
        int[] at = {2, 3, 7, 8, 12, 2, 10, 3};
        for (int what = 0; what < 8; what++) {
            due("37 count(" + what + ")", x.count(what), at[what]);
        }
        due("37 8", x.count(8), BAD);
        due("37 -1", x.count(-1), BAD);
        x.steps(2);
        due("37 RIDDEN of one OFF counts", x.count(5), 3);
        due("37 OFF", x.stand(7), 4);
    }

    // Promise 38
    private static void status() {
        WheelRide x = Check.told("w4,9;f1,1;");
        due("38 none", x.status(), 0);
        x.drop(0);
        due("38 NULL", x.status(), 1);
        x.drop(8);
        due("38 BAD leaves it", x.status(), 1);
        x.count(0);
        x.undo();
        x.steps(1);
        x.wheel();
        due("38 calls without a ROW leave it", x.status(), 1);
        x.row(0, 0, 2);
        due("38 row", x.status(), 0);
        x.set(0, 2, 0);
        due("38 PLACE", x.status(), 2);
        x.set(0, 1, 0);
        due("38 set", x.status(), 0);
        x.row(1, 1, -5);
        due("38 SIZE", x.status(), 4);
        x.row(1, 1, 5);
        x.copy(0, 0, 1, 0, 0);
        due("38 STORE", x.status(), 5);
        x.row(1, 9, 5);
        due("38 BAD leaves STORE", x.status(), 5);
        x.copy(0, 0, 0, 0, 0);
        due("38 copy", x.status(), 0);
        x.as(0, 5);
        due("38 KIND", x.status(), 3);
        x.as(0, 1);
        due("38 as", x.status(), 0);
        x.who(0, 0, 7, 0, 1);
        due("38 who NULL", x.status(), 1);
        x.who(0, 0, 0, 0, 1);
        due("38 who", x.status(), 0);
        x.who(0, 0, 0, 2, 1);
        due("38 who PLACE", x.status(), 2);
        x.who(0, 9, 0, 2, 1);
        due("38 who BAD leaves it", x.status(), 2);
        x.drop(1);
        due("38 drop", x.status(), 0);
    }
}
