import java.util.function.ToLongFunction;

/** Terms, part 3: what is foretold, what is best, what fits, how likely it is. */
final class EdgesOfForetold {
    private static final int NONE = WheelRide.NONE, BAD = WheelRide.BAD, KIND = -1000013;
    private static final int WAITS = 0, ABOARD = 1, OFF = 2, GONE = 3;

    private final Sentences doc;

    EdgesOfForetold(Sentences doc) {
        this.doc = doc;
    }

    void run() {
        doc.under("Terms");
        nothingChanges();
        ahead();
        leans();
        when();
        sticks();
        over();
        order();
        load();
        bear();
        sets();
        share();
        turns();
        rowTells();
        whoItIs();
        limits();
        away();
        days();
        kinds();
    }

    private void unchanged(String call, ToLongFunction<WheelRide> made) {
        WheelRide x = Looks.busy();
        made.applyAsLong(x);
        doc.same(call, Looks.all(x), Looks.all(Looks.busy()));
    }

    private void nothingChanges() {
        doc.says("FORETOLD (nothing changes).");
        unchanged("ahead", x -> x.ahead(1, 60, 0));
        unchanged("leans", x -> x.leans(60));
        unchanged("when", x -> x.when(1, 2));
        unchanged("first 0", x -> x.first(0));
        unchanged("first 1", x -> x.first(1));
        unchanged("order", x -> x.order(40, 0));
        unchanged("load", x -> x.load(40, 0));
        unchanged("bear", x -> x.bear(40));
        unchanged("sets", x -> x.sets(9, 0));
        unchanged("share", x -> x.share(1, 999));
        unchanged("byTurns", x -> x.byTurns(4, 20));
        unchanged("who KINDS", x -> x.who(0, 0, 2, 0, 4));
        unchanged("who WEIGHTS", x -> x.who(0, 1, 2, 0, 4));
        unchanged("who ROUNDS", x -> x.who(0, 2, 2, 0, 4));
        unchanged("who LIMITS", x -> x.who(0, 4, 2, 0, 4));
        unchanged("away", x -> x.away(40, 5, 0));
        unchanged("drawn", x -> x.drawn(60, 999999, 0));
    }

    private void ahead() {
        doc.says("AHEAD by n STEPS (0 to 60) of a PARTY: how it is (0 WAITS, 1 ABOARD, 2 OFF, 3 GONE); its GONDOLA (NONE: not"
            + " ABOARD); RIDDEN; WAITED.");
        WheelRide x = Check.told("w4,99;f1,1;l1,1;f1,4;c1,1;f1,4;");
        doc.due("WAITS by 0", x.ahead(1, 0, 0), WAITS);
        doc.due("WAITS by 1", x.ahead(1, 1, 0), WAITS);
        doc.due("ABOARD by 2", x.ahead(1, 2, 0), ABOARD);
        doc.due("OFF by 5", x.ahead(0, 5, 0), OFF);
        doc.due("not by 4", x.ahead(0, 4, 0), ABOARD);
        doc.due("GONE by 2", x.ahead(3, 2, 0), GONE);
        doc.due("no GONDOLA of one that WAITS", x.ahead(1, 1, 1), NONE);
        doc.due("GONDOLA", x.ahead(1, 2, 1), 1);
        doc.due("no GONDOLA of one OFF", x.ahead(0, 5, 1), NONE);
        doc.due("no GONDOLA of one GONE", x.ahead(3, 2, 1), NONE);
        doc.due("RIDDEN by 60", x.ahead(1, 60, 2), 14);
        doc.due("RIDDEN of one OFF by 60", x.ahead(0, 60, 2), 1);
        doc.due("WAITED of one GONE by 60", x.ahead(3, 60, 3), 2);
        doc.due("WAITED by 3", x.ahead(4, 3, 3), 3);
        doc.due("by 61", x.ahead(1, 61, 2), BAD);
        doc.due("by -1", x.ahead(1, -1, 2), BAD);
        WheelRide y = Check.told("w4,99;l1,1;");
        for (int i = 0; i < 41; i++) {
            y.steps(24);
        }
        y.steps(15);
        doc.due("STEP 999 is no end for what is foretold", y.ahead(0, 1, 1), 0);
        doc.due("LEAN beyond STEP 999", y.leans(60), 2);
    }

    private void leans() {
        doc.says("LEANS behind n STEPS (0 to 60).");
        WheelRide x = Check.told("w4,99;l3,4;f5,1;");
        int[] lean = {0, -6, -10, 6, 10, -6, 0, 6, 0, -6};
        for (int n = 0; n < lean.length; n++) {
            doc.due("LEAN behind " + n, x.leans(n), lean[n]);
        }
        doc.due("LEAN behind 59", x.leans(59), 6);
        doc.due("LEAN behind 60", x.leans(60), 0);
        doc.due("behind 61", x.leans(61), BAD);
        doc.due("behind -1", x.leans(-1), BAD);
        x.ballast(1, 4);
        doc.due("behind 0 is LEAN now", x.leans(0), 8);
    }

    /** No WHEEL lets one be so first behind more than 54 STEPS: the sixth gets in by the sixth, and rides 4 times 12. */
    private void when() {
        doc.says("WHEN a PARTY is so (1 ABOARD, 2 OFF, 3 GONE): behind how many STEPS (0 to 60) first; NONE.");
        WheelRide x = Check.told("w12,99;g1,1;l1,1;s1,1;c1,1;s1,1;f1,4;");
        doc.due("ABOARD behind 1", x.when(0, 1), 1);
        doc.due("OFF behind 13", x.when(0, 2), 13);
        doc.due("never GONE", x.when(0, 3), NONE);
        doc.due("GONE behind 2", x.when(3, 3), 2);
        doc.due("never ABOARD", x.when(3, 1), NONE);
        doc.due("never OFF", x.when(3, 2), NONE);
        doc.due("far", x.when(5, 2), 53);
        x.steps(13);
        doc.due("OFF now", x.when(0, 2), 0);
        doc.due("ABOARD now", x.when(5, 1), 0);
        doc.due("GONE now", x.when(3, 3), 0);
        doc.due("was ABOARD, but is not from now on", x.when(0, 1), NONE);
        WheelRide y = Check.told("w12,99;f1,1;f1,1;f1,1;f1,1;f1,1;f1,4;");
        doc.due("farthest", y.when(5, 2), 54);
    }

    /** What is in it leans the same from 54 STEPS on, so it STICKS first in the 59th at the latest. */
    private void sticks() {
        doc.says("STICKS: in which STEP (1 to 60 from now on) it STICKS first; NONE.");
        WheelRide x = Check.told("w12,16;f9,4;");
        x.ballast(6, 9);
        doc.due("BALLAST that is alone from the 49th STEP on", x.first(0), 51);
        x.steps(24);
        doc.due("from now on", x.first(0), 27);
        x.limit(17);
        doc.due("never", x.first(0), NONE);
        x.limit(16);
        x.steps(24);
        x.steps(2);
        doc.due("at once", x.first(0), 1);
        x.steps(1);
        doc.due("at once again", x.first(0), 1);
        WheelRide y = Check.told("w12,22;g1,1;f3,1;g6,4;g3,4;g9,1;f6,4;");
        y.ballast(10, 8);
        y.ballast(8, 6);
        y.ballast(7, 2);
        doc.due("far", y.first(0), 54);
    }

    private void over() {
        doc.says("OVER: behind how many STEPS (0 to 60) nobody WAITS or is ABOARD first; NONE.");
        WheelRide x = Check.told("w12,99;f1,1;f1,1;f1,1;f1,1;f1,1;f1,4;");
        doc.due("farthest", x.first(1), 54);
        x.steps(24);
        doc.due("from now on", x.first(1), 30);
        x.steps(24);
        x.steps(5);
        doc.due("one is ABOARD yet", x.first(1), 1);
        x.steps(1);
        doc.due("now", x.first(1), 0);
        x.again(3);
        doc.due("one WAITS", x.first(1), 13);
        doc.due("lovers stay", Check.told("w4,99;l1,1;").first(1), NONE);
        doc.due("it STICKS, one WAITS", Check.told("w4,1;f9,1;f1,1;").first(1), NONE);
        WheelRide y = Check.told("w4,99;g1,1;c1,1;c1,1;");
        doc.due("OFF, or GONE", y.first(1), 6);
    }

    private void orderIs(WheelRide x, int n, int many, int... parties) {
        doc.due("how many behind " + n, x.order(n, -1), many);
        for (int k = 0; k < parties.length; k++) {
            doc.due("order(" + n + ", " + k + ")", x.order(n, k), parties[k]);
        }
        doc.due("order(" + n + ", " + parties.length + ")", x.order(n, parties.length), NONE);
    }

    private void order() {
        doc.says("ORDER for n STEPS (1 to 40): of all orders for RANK from now on that by which most are OFF behind them, of"
            + " several that by which RIDDEN of all together is most, of several the first (by numbers): how many; the k-th PARTY.");
        WheelRide x = Check.told("w4,99;f1,4;c1,1;c1,1;");
        orderIs(x, 1, 0, 0, 1, 2);
        orderIs(x, 40, 3, 1, 2, 0);
        doc.due("n 0", x.order(0, 0), BAD);
        doc.due("n 41", x.order(41, 0), BAD);
        orderIs(Check.told("w4,99;f1,4;g1,1;"), 4, 0, 0, 1);
        orderIs(Check.told("w4,99;f1,4;g1,1;"), 5, 1, 1, 0);
        orderIs(Check.told("w4,99;f1,1;f1,4;"), 7, 1, 0, 1);
        orderIs(Check.told("w4,99;f1,1;f1,4;"), 8, 1, 1, 0);
        WheelRide y = Check.told("w4,99;g1,1;f1,4;");
        y.steps(5);
        orderIs(y, 1, 1, 0, 1);
        WheelRide z = Check.told("w4,99;f1,4;f1,4;g1,1;g1,1;");
        z.steps(1);
        orderIs(z, 5, 1, 0, 2, 1, 3);
        doc.due("RANK is by numbers all the same", z.when(1, 1), 1);
        orderIs(Check.told("w8,30;f5,4;f8,3;l9,3;g5,3;c3,2;c4,1;"), 12, 3, 5, 4, 3, 2, 1, 0);
        orderFromNowOn();
    }

    /** Asked again behind each that changes the WHEEL, it is told of the WHEEL as it is then. */
    private void orderFromNowOn() {
        WheelRide x = Check.told("w4,99;f5,4;g5,1;");
        orderIs(x, 5, 1, 1, 0);
        x.steps(1);
        orderIs(x, 5, 1, 0, 1);
        x.undo();
        orderIs(x, 5, 1, 1, 0);
        x.limit(1);
        orderIs(x, 5, 1, 1, 0);
        x.ballast(0, 1);
        orderIs(x, 5, 0, 0, 1);
        x.turnTo(1);
        orderIs(x, 5, 1, 1, 0);
        x.image(0);
        x.limit(99);
        x.ballast(0, 0);
        x.steps(24);
        doc.due("both are OFF", x.stand(7), 3);
        orderIs(x, 5, 2, 0, 1);
        x.again(1);
        orderIs(x, 4, 1, 0, 1);
        x.restore(0);
        orderIs(x, 4, 0, 0, 1);
        Check.read(x, "w4,99;f5,4;g5,1;");
        orderIs(x, 5, 1, 1, 0);
        Check.read(x, "w4,99;g5,1;f5,4;");
        orderIs(x, 5, 1, 0, 1);
    }

    private void loadIs(WheelRide x, int n, int which, int often) {
        doc.due("which for " + n, x.load(n, 0), which);
        doc.due("how often for " + n, x.load(n, 1), often);
    }

    private void load() {
        doc.says("LOAD for n STEPS (1 to 40): the GONDOLA with BALLAST (1 to 9) in it now, in place of what it has, all else as it"
            + " is, by which it STICKS least often in them, of several the first (by the GONDOLA, then the BALLAST): 10 times the"
            + " GONDOLA and the BALLAST; how often.");
        WheelRide x = Check.told("w4,1;f9,1;");
        loadIs(x, 1, 24, 0);
        loadIs(x, 40, 24, 0);
        doc.due("n 0", x.load(0, 0), BAD);
        doc.due("n 41", x.load(41, 0), BAD);
        x.ballast(0, 5);
        loadIs(x, 1, 29, 0);
        x.ballast(0, 6);
        loadIs(x, 1, 1, 1);
        loadIs(x, 40, 1, 40);
        WheelRide y = Check.told("w4,2;f9,1;");
        y.ballast(0, 5);
        loadIs(y, 1, 1, 0);
        WheelRide z = Check.told("w12,1;f9,1;");
        loadIs(z, 1, 28, 0);
        WheelRide twoSides = Check.told("w4,1;f9,4;f9,4;");
        loadIs(twoSides, 2, 24, 1);
        loadIs(twoSides, 40, 24, 39);
        WheelRide v = Check.told("w12,50;f1,1;");
        loadIs(v, 40, 1, 0);
        loadLater();
    }

    /** On 12 GONDOLAS nothing but 9 opposite to 9 goes all the way round by LIMIT 1; the last GONDOLA is number 11. */
    private void loadLater() {
        WheelRide x = Check.told("w12,99;f9,4;");
        x.turnTo(5);
        x.steps(1);
        x.limit(1);
        loadIs(x, 12, 119, 0);
    }

    private void bear() {
        doc.says("BEAR for n STEPS (1 to 40): the least LIMIT (1 to 99) by which it never STICKS in them; NONE.");
        doc.due("1 at least", Check.told("w4,50;f1,1;").bear(40), 1);
        doc.due("10 by LIMIT 1", Check.told("w4,50;f5,1;").bear(1), 1);
        doc.due("12 by LIMIT 2", Check.told("w4,50;f6,1;").bear(1), 2);
        WheelRide x = Check.told("w12,16;f9,4;");
        x.ballast(6, 9);
        x.steps(12);
        doc.due("behind 38 it STICKS by 16: 39", x.bear(39), 17);
        doc.due("38", x.bear(38), 15);
        doc.due("36", x.bear(36), 1);
        doc.due("0", x.bear(0), BAD);
        doc.due("41", x.bear(41), BAD);
        WheelRide y = Check.told("w12,99;f4,4;f5,4;f8,4;f1,4;f9,4;f1,4;");
        y.steps(6);
        y.turnTo(10);
        for (int g = 0; g < 5; g++) {
            y.ballast(g, g == 4 ? 8 : 9);
        }
        doc.due("990 would be", y.bear(1), 99);
        y.ballast(4, 9);
        doc.due("1000 would be", y.bear(1), NONE);
        leastThoughMoreIsWorse();
    }

    /** By LIMIT 1 the critic gets off at once, and it is light; by 2 the critic stays, and it is too heavy. */
    private void leastThoughMoreIsWorse() {
        WheelRide x = Check.told("w4,2;c9,4;");
        x.steps(4);
        x.ballast(0, 2);
        x.ballast(3, 3);
        doc.due("by LIMIT 2 it STICKS", x.first(0), 1);
        x.limit(3);
        doc.due("by LIMIT 3 it does not", x.first(0), NONE);
        doc.due("by LIMIT 1 neither", x.bear(40), 1);
    }

    private void setsAre(WheelRide x, int v, int many, int all, int any) {
        doc.due("how many of " + v, x.sets(v, 0), many);
        doc.due("in all of " + v, x.sets(v, 1), all);
        doc.due("in any of " + v, x.sets(v, 2), any);
    }

    private void sets() {
        doc.says("SETS of v (0 to 54): sets of PARTIES that are ABOARD or WAIT of WEIGHT v together: how many; PARTIES (bits) that"
            + " are in all of these (none: 0); in any.");
        WheelRide x = Check.told("w12,99;f9,4;f9,4;f9,4;f9,4;f9,4;f9,4;");
        setsAre(x, 54, 1, 63, 63);
        setsAre(x, 53, 0, 0, 0);
        setsAre(x, 45, 6, 0, 63);
        setsAre(x, 0, 1, 0, 0);
        setsAre(x, 1, 0, 0, 0);
        doc.due("55", x.sets(55, 0), BAD);
        doc.due("-1", x.sets(-1, 0), BAD);
        WheelRide y = Check.told("w4,99;g1,1;f2,4;c3,1;c3,1;f3,4;");
        setsAre(y, 3, 4, 0, 31);
        y.steps(1);
        setsAre(y, 1, 1, 1, 1);
        y.steps(1);
        doc.due("the critics are GONE", y.stand(8), 12);
        setsAre(y, 3, 2, 0, 19);
        setsAre(y, 6, 1, 19, 19);
        y.steps(3);
        doc.due("giddy ones are OFF", y.stand(7), 1);
        setsAre(y, 3, 1, 16, 16);
        setsAre(y, 1, 0, 0, 0);
        WheelRide z = Check.told("w4,99;g1,1;");
        z.steps(5);
        setsAre(z, 0, 1, 0, 0);
    }

    private void sharesAre(WheelRide x, int n, int... gets) {
        for (int p = 0; p < gets.length; p++) {
            doc.due("share(" + p + ", " + n + ")", x.share(p, n), gets[p]);
        }
    }

    private void share() {
        doc.says("SHARE of n (0 to 999): each PARTY that is OFF gets as many as n times RIDDEN by all RIDDEN of these (cut), what is"
            + " over 1 each to the first ones that have any: how many a PARTY gets (0, if it is not OFF, or none has any).");
        WheelRide x = Check.told("w4,99;l1,4;g1,1;f1,2;c9,1;g1,1;f1,4;");
        sharesAre(x, 999, 0, 0, 0, 0, 0, 0);
        x.steps(6);
        doc.due("one is OFF", x.stand(7), 2);
        sharesAre(x, 999, 0, 999, 0, 0, 0, 0);
        sharesAre(x, 1, 0, 1, 0, 0, 0, 0);
        x.steps(5);
        doc.due("three are OFF", x.stand(7), 22);
        doc.due("RIDDEN 2", x.party(2, 4), 2);
        sharesAre(x, 0, 0, 0, 0, 0, 0, 0);
        sharesAre(x, 1, 0, 1, 0, 0, 0, 0);
        sharesAre(x, 2, 0, 1, 1, 0, 0, 0);
        sharesAre(x, 3, 0, 1, 2, 0, 0, 0);
        sharesAre(x, 4, 0, 1, 2, 0, 1, 0);
        sharesAre(x, 5, 0, 2, 2, 0, 1, 0);
        sharesAre(x, 6, 0, 2, 3, 0, 1, 0);
        sharesAre(x, 7, 0, 2, 4, 0, 1, 0);
        sharesAre(x, 999, 0, 250, 500, 0, 249, 0);
        doc.due("1000", x.share(1, 1000), BAD);
        doc.due("-1", x.share(1, -1), BAD);
    }

    private void turns() {
        doc.says("TURNS of two, n in all (0 to 4), m STEPS (1 to 20): the one puts 3 more BALLAST into the GONDOLA at THE BOTTOM"
            + " (9 at most), or does nothing, then the other one makes the next GONDOLA the one at THE BOTTOM (by hand), or does"
            + " nothing, and so on, all now; then m STEPS: RIDDEN of all together; the one wants it great, the other little: what"
            + " comes of it.");
        WheelRide x = Check.told("w4,99;f1,4;");
        doc.due("0 turns, 20 STEPS", x.byTurns(0, 20), 4);
        doc.due("0 turns, 3 STEPS", x.byTurns(0, 3), 0);
        doc.due("n -1", x.byTurns(-1, 1), BAD);
        doc.due("n 5", x.byTurns(5, 1), BAD);
        doc.due("m 0", x.byTurns(0, 0), BAD);
        doc.due("m 21", x.byTurns(0, 21), BAD);
        x.steps(3);
        doc.due("0 turns, 1 STEP", x.byTurns(0, 1), 1);
        doc.due("1 turn is the one's alone", x.byTurns(1, 1), 1);
        doc.due("in 2 the other one passes it by hand: no RIDDEN", x.byTurns(2, 1), 0);
        doc.due("in 2 it comes round later", x.byTurns(2, 5), 1);
        doc.due("in 4 it is passed once more", x.byTurns(4, 4), 1);
        doc.due("in 4, 3 STEPS", x.byTurns(4, 3), 0);
        x.turnTo(2);
        doc.due("in 2 the other one does nothing", x.byTurns(2, 1), 0);
        doc.due("in 2, 2 STEPS: one turn by hand helps", x.byTurns(2, 2), 1);
        doc.due("in 4, 2 STEPS: two pass it", x.byTurns(4, 2), 0);
        ballastByTurns();
    }

    /**
     * 12 GONDOLAS and LIMIT 1: a PARTY with BALLAST weighs 9 opposite to THE BOTTOM and comes to it in 6 STEPS, if 9 is at
     * THE BOTTOM, too; with 8 it STICKS in the second STEP, with 10 or more, too.
     */
    private void ballastByTurns() {
        WheelRide x = Check.told("w12,99;f1,4;");
        x.turnTo(6);
        x.steps(1);
        x.turnTo(0);
        x.limit(1);
        x.ballast(6, 8);
        int[] by = {0, 0, 0, 0, 0, 0, 1, 1, 1, 1};
        for (int v = 0; v <= 9; v++) {
            x.ballast(0, v);
            doc.due("no turn, BALLAST " + v, x.byTurns(0, 6), v == 9 ? 1 : 0);
            doc.due("one turn, BALLAST " + v, x.byTurns(1, 6), by[v]);
        }
        doc.due("one turn, BALLAST 9, 5 STEPS", x.byTurns(1, 5), 0);
        x.ballast(0, 3);
        doc.due("in 3 the other one comes between", x.byTurns(3, 6), 0);
        doc.due("no BALLAST stays", x.gondola(0, 2), 3);
    }

    private void rowTells() {
        doc.says("A row tells LEAN behind each of n STEPS (1 to 12) from now on.");
        WheelRide x = Check.told("w4,99;l3,4;f5,1;");
        int[] lean = {-6, -10, 6, 10, -6, 0, 6, 0, -6, 0, 6, 0};
        x.row(0, 0, 14);
        for (int i = 0; i < 12; i++) {
            x.set(0, i + 1, lean[i]);
        }
        for (int n = 1; n <= 12; n++) {
            doc.due("WEIGHT by " + n, x.who(0, 1, 0, 1, n), 1 << 3);
        }
        doc.due("from another ITEM on", x.who(0, 1, 0, 0, 12), 0);
        doc.due("0 ITEMS", x.who(0, 1, 0, 1, 0), BAD);
        doc.due("13 ITEMS", x.who(0, 1, 0, 1, 13), BAD);
        x.set(0, 12, 1);
        doc.due("the last one is wrong", x.who(0, 1, 0, 1, 12), 0);
        doc.due("it is not asked", x.who(0, 1, 0, 1, 11), 1 << 3);
        x.set(0, 1, 6);
        doc.due("the first one is wrong", x.who(0, 1, 0, 1, 11), 0);
        x.steps(1);
        doc.due("from now on", x.who(0, 1, 0, 2, 10), 1 << 3);
    }

    private void whoItIs() {
        doc.says("KINDS (bits 1 to 5), WEIGHTS (1 to 9, bits), MEANT ROUNDS (1 to 4, bits) of a PARTY by which it is so.");
        WheelRide x = Check.told("w4,99;f1,1;f2,4;");
        x.row(0, 2, 1);
        x.set(0, 0, -2);
        doc.due("all KINDS", x.who(0, 0, 0, 0, 1), 62);
        doc.due("all ROUNDS", x.who(0, 2, 0, 0, 1), 30);
        doc.due("all WEIGHTS of one that WAITS", x.who(1, 1, 0, 0, 1), 1022);
        for (int v = 0; v <= 10; v++) {
            x.set(0, 0, -2 * v);
            doc.due("WEIGHT by LEAN " + -2 * v, x.who(0, 1, 0, 0, 1), v >= 1 && v <= 9 ? 1 << v : 0);
        }
        doc.due("no KIND", x.who(0, 0, 0, 0, 1), 0);
        doc.due("no ROUNDS", x.who(0, 2, 0, 0, 1), 0);
        for (int rounds = 1; rounds <= 4; rounds++) {
            roundsBy(rounds);
        }
        kindsByPatience();
        kindsByWhenTheyGetOff();
    }

    /** A family of 4 ROUNDS on 4 GONDOLAS, at THE BOTTOM behind some rounds: LEAN -2 tells that it stays, 0 that it is OFF. */
    private void roundsBy(int ridden) {
        WheelRide x = Check.told("w4,99;f1,4;");
        x.steps(4 * ridden);
        x.row(0, 1, 2);
        x.set(0, 0, -2);
        int all = 30, most = (2 << ridden) - 2;
        doc.due("ROUNDS above " + ridden, x.who(0, 2, 0, 0, 1), all & ~most);
        doc.due("ROUNDS to " + ridden, x.who(0, 2, 0, 1, 1), most);
    }

    /** The third one gets in in the third STEP, if it is patient: its LEAN of 9 shows. */
    private void kindsByPatience() {
        WheelRide x = Check.told("w4,99;f1,4;f1,4;f9,4;");
        x.row(0, 0, 3);
        x.set(0, 0, -2);
        x.set(0, 1, -2);
        x.set(0, 2, 2 - 18);
        doc.due("patient ones", x.who(2, 0, 0, 0, 3), 1 << 1 | 1 << 2 | 1 << 3 | 1 << 4);
        x.set(0, 2, 2);
        doc.due("a critic is GONE", x.who(2, 0, 0, 0, 3), 1 << 5);
        WheelRide y = Check.told("w12,99;f1,4;f1,4;f1,4;f1,4;f1,4;f9,4;");
        y.steps(4);
        y.row(0, 1, 2);
        y.set(0, 0, y.leans(1));
        y.set(0, 1, y.leans(2));
        doc.due("a solitary one and a critic are GONE by 5", y.who(5, 0, 0, 0, 2), 1 << 1 | 1 << 2 | 1 << 3);
    }

    private void kindsByWhenTheyGetOff() {
        WheelRide x = Check.told("w4,99;f1,1;");
        x.steps(4);
        x.row(0, 0, 1);
        doc.due("who is OFF", x.who(0, 0, 0, 0, 1), 1 << 1 | 1 << 3 | 1 << 4 | 1 << 5);
        x.set(0, 0, -2);
        doc.due("lovers stay", x.who(0, 0, 0, 0, 1), 1 << 2);
        WheelRide y = Check.told("w4,2;f1,4;");
        y.steps(4);
        y.ballast(1, 5);
        y.row(0, 0, 1);
        doc.due("giddy ones and critics are OFF", y.who(0, 0, 0, 0, 1), 1 << 3 | 1 << 5);
    }

    private void limits() {
        doc.says("LIMITS (1 to 99): how many; the least; NONE.");
        WheelRide x = Check.told("w4,50;f9,1;");
        x.row(0, 0, 1);
        doc.due("it STICKS by 1 alone", x.who(0, 3, 0, 0, 1), 1);
        doc.due("that is the least", x.who(0, 4, 0, 0, 1), 1);
        x.set(0, 0, -18);
        doc.due("it TURNS by 2 to 99", x.who(0, 3, 0, 0, 1), 98);
        doc.due("2 is the least", x.who(0, 4, 0, 0, 1), 2);
        x.set(0, 0, -17);
        doc.due("none", x.who(0, 3, 0, 0, 1), 0);
        doc.due("NONE", x.who(0, 4, 0, 0, 1), NONE);
        WheelRide y = Check.told("w12,99;f4,4;f5,4;f8,4;f1,4;f9,4;f1,4;");
        y.steps(6);
        y.turnTo(10);
        for (int g = 0; g < 5; g++) {
            y.ballast(g, g == 4 ? 8 : 9);
        }
        y.row(0, 1, 1);
        y.set(0, 0, 990);
        doc.due("by 99 alone", y.who(0, 3, 0, 0, 1), 1);
        doc.due("99 is the least", y.who(0, 4, 0, 0, 1), 99);
    }

    private void likely(WheelRide x, int n, int p, long above, long below) {
        doc.due("above, away(" + n + ", " + p + ")", x.away(n, p, 0), above);
        doc.due("below, away(" + n + ", " + p + ")", x.away(n, p, 1), below);
    }

    private void away() {
        doc.says("AWAY by p of 10 (0 to 10): each PARTY that WAITS is GONE now in p of 10 cases, apart: how likely it never STICKS in n"
            + " STEPS (0 to 40): a fraction.");
        WheelRide x = Check.told("w4,1;f9,1;f9,1;f1,1;");
        likely(x, 1, 0, 0, 1);
        likely(x, 1, 1, 1, 100);
        likely(x, 1, 5, 1, 4);
        likely(x, 1, 9, 81, 100);
        likely(x, 1, 10, 1, 1);
        likely(x, 40, 9, 81, 100);
        likely(x, 0, 0, 1, 1);
        likely(x, 0, 10, 1, 1);
        doc.due("n -1", x.away(-1, 5, 0), BAD);
        doc.due("n 41", x.away(41, 5, 0), BAD);
        doc.due("p -1", x.away(1, -1, 0), BAD);
        doc.due("p 11", x.away(1, 11, 0), BAD);
        x.steps(1);
        likely(x, 1, 10, 0, 1);
        likely(Check.told("w4,1;f9,1;f9,1;f9,1;f9,1;f9,1;f9,1;"), 40, 1, 1, 1000000);
        likely(Check.told("w4,1;f9,1;f9,1;f9,1;f9,1;f9,1;f9,1;"), 40, 9, 531441, 1000000);
        WheelRide y = Check.told("w12,16;f9,4;");
        y.ballast(6, 9);
        y.steps(12);
        likely(y, 38, 5, 1, 1);
        likely(y, 39, 5, 0, 1);
        WheelRide z = Check.told("w4,1;f5,1;f9,1;");
        likely(z, 1, 3, 79, 100);
    }

    /**
     * By SEED 1 X is 16807, 282475249, 1622650073, 984943658, 1144108930, 470211272, 101027544, 1457850878, 1458777923,
     * 2007237709, 823564440, 1115438165; the sixth, seventh and eleventh leave 0 by 4, and 2, 4 and 0 by 10.
     */
    private void days() {
        doc.says("DAYS of n STEPS (0 to 60) by a SEED (X at first): ahead of each X becomes the rest of (X times 16807) by 2147483647;"
            + " the PARTY that is the rest of X by how many there are, if it is OFF or GONE, comes again; else BALLAST of the GONDOLA"
            + " that is the rest of X by how many there are is the rest of X by 10, if X by 4 leaves 0; then the STEP: how often it"
            + " STUCK; RIDDEN of all at last.");
        WheelRide x = Check.told("w4,1;f3,4;");
        int[] stuck = {0, 0, 0, 0, 0, 0, 0, 1, 2, 3, 4, 4, 4};
        int[] ridden = {0, 0, 0, 0, 1, 1, 1, 1, 1, 1, 1, 1, 2};
        for (int n = 0; n < stuck.length; n++) {
            doc.due("STUCK behind " + n, x.drawn(n, 1, 0), stuck[n]);
            doc.due("RIDDEN behind " + n, x.drawn(n, 1, 1), ridden[n]);
        }
        doc.due("SEED 999999: BALLAST 4 on the first day", x.drawn(1, 999999, 0), 1);
        doc.due("n 60", x.drawn(60, 1, 0) >= 4 ? 1 : 0, 1);
        doc.due("n 61", x.drawn(61, 1, 0), BAD);
        doc.due("n -1", x.drawn(-1, 1, 0), BAD);
        doc.due("SEED 0", x.drawn(1, 0, 0), BAD);
        doc.due("SEED 1000000", x.drawn(1, 1000000, 0), BAD);
        daysOfBallast();
        daysOfComingAgain();
    }

    /** By 5 GONDOLAS BALLAST is 2 in GONDOLA 2 on the sixth day, 4 in GONDOLA 4 on the seventh: 12 on the eighth. */
    private void daysOfBallast() {
        WheelRide x = Check.told("w5,1;f3,4;");
        doc.due("not STUCK behind 7 of 5", x.drawn(7, 1, 0), 0);
        doc.due("STUCK behind 8 of 5", x.drawn(8, 1, 0), 1);
        WheelRide y = Check.told("w5,99;g4,1;");
        y.steps(6);
        y.limit(1);
        doc.due("who comes again comes in place of BALLAST, that would help", y.drawn(1, 999999, 0), 1);
    }

    private void daysOfComingAgain() {
        WheelRide x = Check.told("w4,1;g3,1;");
        doc.due("OFF on the fifth day", x.drawn(5, 1, 1), 1);
        doc.due("again on the sixth", x.drawn(6, 1, 1), 0);
        WheelRide y = Check.told("w4,99;g1,1;f1,2;");
        y.steps(10);
        doc.due("both are OFF", y.drawn(0, 1, 1), 3);
        doc.due("the one that is the rest by 2 comes again", y.drawn(1, 1, 1), 1);
        WheelRide z = Check.told("w4,99;f1,4;c1,1;");
        z.steps(1);
        z.turnTo(0);
        z.steps(1);
        doc.due("a critic is GONE", z.stand(8), 2);
        doc.due("RIDDEN behind 3", z.drawn(3, 1, 1), 1);
        doc.due("the one that was GONE has RIDDEN behind 4", z.drawn(4, 1, 1), 2);
    }

    private void kinds() {
        doc.says("KINDS of PARTIES: 0 PARTY; 1 FAMILY, a PARTY; 2 LOVERS, a FAMILY; 3 GIDDY, a FAMILY; 4 SOLITARY, a PARTY; 5 CRITIC, a"
            + " SOLITARY one. By this it is asked.");
        WheelRide x = Check.told("w4,9;f1,1;l1,1;g1,1;s1,1;c1,1;");
        String[] such = {"110000", "111000", "110100", "100010", "100011"};
        for (int p = 0; p < 5; p++) {
            for (int kind = 0; kind <= 5; kind++) {
                doc.due("as(" + p + ", " + kind + ")", x.as(p, kind), such[p].charAt(kind) == '1' ? p : KIND);
            }
        }
        doc.due("6 is none", x.as(0, 6), BAD);
        doc.due("-1 is none", x.as(0, -1), BAD);
    }
}
