/** Terms, part 2: where PARTIES are, PLACE, PULL, LEAN, what a STEP does, what ACTS are. */
final class EdgesOfSteps {
    private static final int NONE = WheelRide.NONE, STATE = WheelRide.STATE;
    private static final int WAITS = 0, ABOARD = 1, OFF = 2, GONE = 3;

    private final Sentences doc;

    EdgesOfSteps(Sentences doc) {
        this.doc = doc;
    }

    void run() {
        doc.under("Terms");
        howPartiesAre();
        place();
        pull();
        lean();
        balance();
        getsOff();
        family();
        lovers();
        giddy();
        solitary();
        critic();
        getsIn();
        waiting();
        turning();
        stepCounted();
        actsKept();
        actStep();
        actByHand();
        actBallastAndLimit();
        actAgain();
    }

    private void howPartiesAre() {
        doc.says("A PARTY WAITS, is ABOARD (in a GONDOLA), OFF, or GONE.");
        WheelRide x = Check.told("w4,99;g1,1;f1,2;l1,1;c1,1;s1,1;f1,4;");
        for (int step = 0; step < 20; step++) {
            int waits = x.stand(5), aboard = x.stand(6), off = x.stand(7), gone = x.stand(8);
            doc.due("one of the four, STEP " + step, waits + aboard + off + gone, 63);
            doc.due("none of two, STEP " + step, waits | aboard | off | gone, 63);
            for (int p = 0; p < 6; p += 3) {
                int how = x.party(p, 0);
                doc.due("as stand() says, STEP " + step, x.stand(5 + how) >> p & 1, 1);
                doc.due("in a GONDOLA, STEP " + step, x.party(p, 1) == NONE ? 0 : 1, how == ABOARD ? 1 : 0);
            }
            x.steps(1);
        }
        doc.due("GONE", x.party(3, 0), GONE);
        doc.due("OFF", x.party(0, 0), OFF);
    }

    private void place() {
        doc.says("PLACE of a GONDOLA: its number less that of THE BOTTOM one, with n GONDOLAS modulo n (0: THE BOTTOM).");
        for (int n = 4; n <= 12; n++) {
            WheelRide x = Check.told("w" + n + ",1;f1,1;");
            for (int bottom = 0; bottom < n; bottom++) {
                x.turnTo(bottom);
                doc.due("THE BOTTOM " + bottom + " of " + n, x.gondola(bottom, 0), 0);
                doc.due("next of " + bottom + " of " + n, x.gondola((bottom + 1) % n, 0), 1);
                doc.due("behind " + bottom + " of " + n, x.gondola((bottom + n - 1) % n, 0), n - 1);
            }
            doc.due("the first by the last of " + n, x.gondola(0, 0), 1);
        }
    }

    private void pull() {
        doc.says("PULL of a PLACE p: p times (n less 2 p), if 2 p is n at most; else 0 less PULL of the PLACE n less p.");
        int[][] pulls = {
            {0, 2, 0, -2},
            {0, 3, 2, -2, -3},
            {0, 4, 4, 0, -4, -4},
            {0, 5, 6, 3, -3, -6, -5},
            {0, 6, 8, 6, 0, -6, -8, -6},
            {0, 7, 10, 9, 4, -4, -9, -10, -7},
            {0, 8, 12, 12, 8, 0, -8, -12, -12, -8},
            {0, 9, 14, 15, 12, 5, -5, -12, -15, -14, -9},
            {0, 10, 16, 18, 16, 10, 0, -10, -16, -18, -16, -10}};
        for (int[] due : pulls) {
            WheelRide x = Check.told("w" + due.length + ",1;f1,1;");
            x.turnTo(2);
            for (int p = 0; p < due.length; p++) {
                int gondola = (p + 2) % due.length;
                doc.due("PULL of " + p + " of " + due.length, x.gondola(gondola, 1), due[p]);
                doc.due("PLACE " + p + " of " + due.length, x.gondola(gondola, 0), p);
            }
        }
    }

    private void lean() {
        doc.says("LEAN: WEIGHT of all PARTIES ABOARD and all BALLAST, each times PULL of the PLACE of its GONDOLA, together.");
        WheelRide x = Check.told("w8,99;f3,4;l5,4;c9,4;s7,1;");
        doc.due("none is ABOARD", x.stand(3), 0);
        x.steps(2);
        doc.due("a critic is GONE", x.party(2, 0), GONE);
        doc.due("a solitary one WAITS", x.party(3, 0), WAITS);
        doc.due("the two ABOARD alone", x.stand(3), 3 * -8 + 5 * -6);
        x.ballast(3, 4);
        doc.due("BALLAST ahead", x.stand(3), -54 + 4 * 6);
        x.ballast(2, 9);
        doc.due("BALLAST at THE BOTTOM", x.stand(3), -30);
        x.ballast(6, 9);
        doc.due("BALLAST at the top", x.stand(3), -30);
        x.ballast(1, 2);
        doc.due("BALLAST beside a PARTY", x.stand(3), -30 - 2 * 6);
        WheelRide y = Check.told("w4,99;g9,1;f5,4;");
        y.steps(5);
        doc.due("OFF", y.party(0, 0), OFF);
        doc.due("one that is OFF has none, the other one is at THE BOTTOM", y.stand(3), 0);
        doc.due("behind one STEP more", y.leans(1), -10);
    }

    private void balance() {
        doc.says("It is IN BALANCE, if LEAN is neither above 10 times LIMIT nor below 0 less that.");
        WheelRide x = Check.told("w5,1;f1,1;");
        balanced(x, 0, 1);
        x.ballast(1, 2);
        x.ballast(2, 2);
        balanced(x, 10, 1);
        x.ballast(1, 3);
        x.ballast(2, 1);
        balanced(x, 11, 0);
        x.ballast(3, 4);
        balanced(x, 3, 1);
        x.ballast(1, 0);
        x.ballast(2, 0);
        x.ballast(3, 2);
        x.ballast(4, 2);
        balanced(x, -10, 1);
        x.ballast(3, 1);
        x.ballast(4, 3);
        balanced(x, -11, 0);
        x.limit(2);
        balanced(x, -11, 1);
        WheelRide y = Check.told("w12,99;f4,4;f5,4;f8,4;f1,4;f9,4;f1,4;");
        y.steps(6);
        y.turnTo(11);
        for (int g = 0; g < 5; g++) {
            y.ballast(g, g == 4 ? 8 : 9);
        }
        balanced(y, 990, 1);
        y.ballast(4, 9);
        balanced(y, 1000, 0);
    }

    private void balanced(WheelRide x, int lean, int so) {
        doc.due("LEAN", x.stand(3), lean);
        doc.due("IN BALANCE by " + lean, x.stand(4), so);
    }

    private void getsOff() {
        doc.says("A STEP: 1 the PARTY in the GONDOLA at THE BOTTOM is OFF (RIDDEN, WAITED stay), if it is DONE by what there is"
            + " as the STEP begins:");
        WheelRide x = Check.told("w4,99;f1,2;f1,1;");
        doc.due("not while it comes to THE BOTTOM", x.steps(5), 0);
        doc.due("RIDDEN", x.party(1, 4), 1);
        doc.due("in the STEP that begins so", x.steps(1), 2);
        doc.due("RIDDEN stays", x.party(1, 4), 1);
        doc.due("WAITED stays", x.party(1, 5), 1);
        x.steps(8);
        doc.due("RIDDEN stays later, too", x.party(1, 4), 1);
        doc.due("WAITED stays later, too", x.party(1, 5), 1);
        WheelRide y = Check.told("w4,99;f1,1;");
        y.steps(4);
        y.turnTo(1);
        doc.due("not elsewhere than at THE BOTTOM", y.steps(1), 0);
        y.turnTo(0);
        doc.due("at THE BOTTOM", y.steps(1), 1);
        WheelRide z = Check.told("w4,2;c1,4;");
        z.steps(4);
        z.ballast(2, 6);
        doc.due("LEAN as the STEP begins", z.stand(3), 0);
        doc.due("a critic stays by it", z.steps(1), 0);
        doc.due("LEAN as it ends", z.stand(3), 10);
    }

    private void family() {
        doc.says("a family, if RIDDEN is ROUNDS or more;");
        for (int rounds = 1; rounds <= 4; rounds++) {
            ridesOut(Check.told("w4,99;f1," + rounds + ";"), rounds);
        }
        moreThanMeant(Check.told("w4,99;f1,1;"), 1);
    }

    /** One PARTY, 4 GONDOLAS: RIDDEN is 1 behind 4 STEPS, 2 behind 8, ..; it is OFF in the STEP behind that. */
    private void ridesOut(WheelRide x, int rounds) {
        x.steps(4 * rounds - 1);
        doc.due("RIDDEN " + (rounds - 1), x.party(0, 4), rounds - 1);
        doc.due("ABOARD behind " + 4 * rounds, x.steps(1), 0);
        doc.due("RIDDEN " + rounds, x.party(0, 4), rounds);
        doc.due("OFF behind one more", x.steps(1), 1);
    }

    /** Turned by hand it passes THE BOTTOM without a STEP there, so that RIDDEN becomes 2. */
    private void moreThanMeant(WheelRide x, int off) {
        x.steps(4);
        x.turnTo(1);
        doc.due("ABOARD yet", x.steps(3), 0);
        doc.due("RIDDEN 2", x.party(0, 4), 2);
        doc.due("or more", x.steps(1), off);
    }

    private void lovers() {
        doc.says("lovers so, but if nobody WAITS they stay;");
        WheelRide x = Check.told("w4,99;l1,2;f1,4;f1,4;f1,4;f1,4;");
        x.steps(8);
        doc.due("RIDDEN less than ROUNDS at STEP 5", x.party(0, 0), ABOARD);
        doc.due("RIDDEN as ROUNDS", x.party(0, 4), 2);
        doc.due("one WAITS", x.stand(5), 16);
        doc.due("they get off", x.steps(1), 1);
        doc.due("that one gets in there", x.party(4, 1), 0);
        WheelRide y = Check.told("w4,99;l1,1;f1,4;f1,4;f1,4;");
        y.steps(4);
        doc.due("nobody WAITS", y.stand(5), 0);
        doc.due("they stay", y.steps(1), 0);
        doc.due("they are where they were", y.party(0, 1), 0);
        y.steps(3);
        doc.due("they ride on", y.party(0, 4), 2);
        WheelRide z = Check.told("w4,99;l1,1;c1,1;");
        z.steps(6);
        doc.due("one is OFF: it does not WAIT", z.steps(2), 2);
        doc.due("they stay", z.steps(1), 2);
        z.again(1);
        doc.due("they stay where they are not at THE BOTTOM", z.steps(1), 0);
        WheelRide v = Check.told("w4,99;l1,1;c1,1;");
        v.steps(8);
        v.again(1);
        doc.due("a critic WAITS: they get off", v.steps(1), 1);
        doc.due("it gets in", v.party(1, 1), 0);
    }

    private void giddy() {
        doc.says("giddy ones, if RIDDEN is 1 or more;");
        WheelRide x = Check.told("w4,99;g1,4;");
        x.steps(1);
        x.turnTo(0);
        doc.due("RIDDEN 0 at THE BOTTOM: they stay", x.steps(1), 0);
        doc.due("ABOARD", x.party(0, 0), ABOARD);
        ridesOut(Check.told("w4,99;g1,4;"), 1);
        moreThanMeant(Check.told("w4,99;g1,4;"), 1);
    }

    private void solitary() {
        doc.says("a solitary one as a family;");
        for (int rounds = 1; rounds <= 4; rounds++) {
            ridesOut(Check.told("w4,99;s1," + rounds + ";"), rounds);
        }
        moreThanMeant(Check.told("w4,99;s1,1;"), 1);
        WheelRide x = Check.told("w4,2;s1,4;");
        x.steps(4);
        x.ballast(1, 5);
        doc.due("LEAN is nothing to it", x.steps(1), 0);
    }

    private void critic() {
        doc.says("a critic so, or with RIDDEN 1 or more, if LEAN is 5 times LIMIT or more either way.");
        for (int rounds = 1; rounds <= 4; rounds++) {
            ridesOut(Check.told("w4,99;c1," + rounds + ";"), rounds);
        }
        moreThanMeant(Check.told("w4,99;c1,1;"), 1);
        criticBy(1, 1, 0, 0, 5, 1);
        criticBy(0, 2, 0, 0, 4, 0);
        criticBy(2, 0, 0, 0, 6, 1);
        criticBy(0, 0, 1, 1, -5, 1);
        criticBy(0, 0, 2, 0, -4, 0);
        criticBy(0, 0, 0, 2, -6, 1);
        WheelRide x = Check.told("w5,1;c1,4;");
        x.steps(1);
        x.turnTo(0);
        x.ballast(1, 2);
        doc.due("LEAN 6", x.stand(3), 6);
        doc.due("RIDDEN 0: it stays", x.steps(1), 0);
        doc.due("ABOARD", x.party(0, 0), ABOARD);
    }

    /** A critic behind the first of 4 ROUNDS on 5 GONDOLAS, whose PULLS are 3, 2, -2, -3; LIMIT 1. */
    private void criticBy(int one, int two, int three, int four, int lean, int off) {
        WheelRide x = Check.told("w5,1;c1,4;");
        doc.due("a round", x.steps(5), 0);
        x.ballast(1, one);
        x.ballast(2, two);
        x.ballast(3, three);
        x.ballast(4, four);
        doc.due("LEAN", x.stand(3), lean);
        doc.due("OFF by LEAN " + lean, x.steps(1), off);
    }

    private void getsIn() {
        doc.says("2 If nobody is in that GONDOLA then, the first that WAITS (by RANK, that of PARTIES: by their numbers) is ABOARD"
            + " there; RIDDEN is 0.");
        WheelRide x = Check.told("w4,99;g1,1;f1,4;f1,4;f1,4;f1,4;f1,4;");
        x.ballast(0, 9);
        x.steps(1);
        doc.due("the first, BALLAST or not", x.party(0, 1), 0);
        doc.due("one alone", x.stand(6), 1);
        x.steps(3);
        doc.due("all GONDOLAS have one", x.stand(6), 15);
        doc.due("one is OFF", x.steps(1), 1);
        doc.due("the next one gets in in the same STEP", x.party(4, 1), 0);
        doc.due("RIDDEN is 0", x.party(4, 4), 0);
        doc.due("one WAITS", x.stand(5), 32);
        x.again(0);
        x.steps(12);
        doc.due("nobody gets in, where one is", x.stand(5), 33);
        doc.due("it WAITED meanwhile", x.party(0, 5), 12);
        x.steps(1);
        doc.due("PARTY 1 is OFF", x.stand(7), 2);
        doc.due("the one of the lower number gets in, though it came later", x.party(0, 1), 1);
        doc.due("RIDDEN is 0 of one that came again", x.party(0, 4), 0);
        doc.due("the other one WAITS", x.stand(5), 32);
        WheelRide y = Check.told("w4,99;g1,1;");
        y.steps(5);
        doc.due("one that is OFF does not get in", y.party(0, 0), OFF);
        doc.due("nobody in it", y.gondola(0, 3), NONE);
        doc.due("it TURNS all the same", y.stand(1), 1);
    }

    private void waiting() {
        doc.says("3 Each that WAITS has WAITED 1 more; a solitary one that has WAITED 5 times, a critic that has 2 times is GONE.");
        WheelRide x = Check.told("w4,1;f9,1;s1,1;c1,1;l1,1;g1,1;f1,1;");
        waited(x, 1, 0, 1, 1, WAITS, WAITS);
        waited(x, 1, 0, 2, 2, WAITS, GONE);
        waited(x, 1, 0, 3, 2, WAITS, GONE);
        waited(x, 1, 0, 4, 2, WAITS, GONE);
        waited(x, 1, 0, 5, 2, GONE, GONE);
        waited(x, 1, 0, 5, 2, GONE, GONE);
        doc.due("others WAIT on", x.stand(5), 56);
        x.steps(24);
        doc.due("lovers WAITED", x.party(3, 5), 30);
        doc.due("giddy ones WAITED", x.party(4, 5), 30);
        doc.due("a family WAITED", x.party(5, 5), 30);
        doc.due("they WAIT on", x.stand(5), 56);
        WheelRide first = Check.told("w4,99;s1,1;f1,4;f1,4;f1,4;f1,4;");
        first.steps(5);
        first.again(0);
        first.steps(4);
        doc.due("a solitary one that came again, by 4", first.party(0, 0), WAITS);
        first.steps(1);
        doc.due("a solitary one that came again, by 5", first.party(0, 0), GONE);
        WheelRide y = Check.told("w6,99;f1,4;f1,4;f1,4;f1,4;s1,4;");
        y.steps(5);
        doc.due("a solitary one gets in in the fifth STEP", y.party(4, 1), 4);
        doc.due("it has WAITED 4 times", y.party(4, 5), 4);
        WheelRide z = Check.told("w6,99;f1,4;c1,4;");
        z.steps(2);
        doc.due("a critic gets in in the second STEP", z.party(1, 1), 1);
        doc.due("it has WAITED once", z.party(1, 5), 1);
        WheelRide v = Check.told("w6,99;f1,4;f1,4;f1,4;f1,4;f1,4;s1,4;");
        v.steps(5);
        doc.due("a solitary one is GONE in the fifth STEP", v.party(5, 0), GONE);
    }

    private void waited(WheelRide x, int steps, int first, int solitary, int critic, int solitaryIs, int criticIs) {
        x.steps(steps);
        doc.due("WAITED of the one that got in", x.party(0, 5), first);
        doc.due("WAITED of a solitary one", x.party(1, 5), solitary);
        doc.due("WAITED of a critic", x.party(2, 5), critic);
        doc.due("a solitary one by " + solitary, x.party(1, 0), solitaryIs);
        doc.due("a critic by " + critic, x.party(2, 0), criticIs);
    }

    private void turning() {
        doc.says("4 The wheel TURNS: the GONDOLA of the next number (0 behind the last one) is at THE BOTTOM, if it would be"
            + " IN BALANCE then; a PARTY in it has RIDDEN 1 more (99 at most); else it STICKS: it stays as it is.");
        for (int n = 4; n <= 12; n++) {
            WheelRide x = Check.told("w" + n + ",99;f1,4;");
            for (int step = 1; step <= n; step++) {
                x.steps(1);
                doc.due("THE BOTTOM of " + n + " behind " + step, x.stand(1), step % n);
                doc.due("RIDDEN of " + n + " behind " + step, x.party(0, 4), step == n ? 1 : 0);
            }
        }
        turnsBy("w4,1;f5,1;", 1, -10);
        turnsBy("w4,1;f6,1;", 0, 0);
        turnsBy("w5,2;f7,1;", 0, 0);
        turnsBy("w5,3;f9,1;", 1, -27);
        wouldBe();
        mostRidden();
    }

    private void turnsBy(String text, int bottom, int lean) {
        WheelRide x = Check.told(text);
        x.steps(1);
        doc.due("THE BOTTOM, " + text, x.stand(1), bottom);
        doc.due("LEAN, " + text, x.stand(3), lean);
        doc.due("IN BALANCE, " + text, x.stand(4), 1);
        doc.due("ABOARD, " + text, x.stand(6), 1);
        doc.due("RIDDEN, " + text, x.party(0, 4), 0);
    }

    /** What counts is LEAN as it would be then, not as it is; either way. */
    private void wouldBe() {
        WheelRide x = Check.told("w5,1;f1,4;");
        x.steps(1);
        x.turnTo(0);
        x.ballast(2, 4);
        doc.due("LEAN 8 is IN BALANCE", x.stand(4), 1);
        x.steps(1);
        doc.due("4 times 3 less 3 is 9", x.stand(3), 9);
        doc.due("it TURNED", x.stand(1), 1);
        x.turnTo(0);
        x.ballast(2, 5);
        x.steps(1);
        doc.due("5 times 3 less 3 would be 12: it STICKS", x.stand(1), 0);
        x.ballast(2, 0);
        x.ballast(1, 9);
        doc.due("LEAN 27 is not IN BALANCE", x.stand(4), 0);
        x.steps(1);
        doc.due("it would be 0 less 3: it TURNED", x.stand(1), 1);
        x.turnTo(4);
        x.ballast(1, 0);
        x.ballast(4, 9);
        x.steps(1);
        doc.due("0 less 27 would be: it STICKS", x.stand(1), 4);
        doc.due("RIDDEN of the one that would come", x.party(0, 4), 0);
        x.ballast(4, 3);
        x.steps(1);
        doc.due("0 less 9: it TURNED", x.stand(1), 0);
        doc.due("RIDDEN of the one that came", x.party(0, 4), 1);
    }

    private void mostRidden() {
        WheelRide x = Check.told("w4,99;l1,1;");
        for (int i = 0; i < 16; i++) {
            x.steps(24);
        }
        x.steps(8);
        doc.due("RIDDEN 98", x.party(0, 4), 98);
        x.steps(4);
        doc.due("RIDDEN 99", x.party(0, 4), 99);
        x.steps(4);
        doc.due("99 at most", x.party(0, 4), 99);
        doc.due("foretold 99 at most", x.ahead(0, 60, 2), 99);
    }

    private void stepCounted() {
        doc.says("STEP is 1 more.");
        WheelRide x = Check.told("w4,1;f6,1;");
        for (int step = 1; step <= 3; step++) {
            x.steps(1);
            doc.due("STEP, though it STICKS", x.count(3), step);
        }
        x.limit(2);
        x.steps(1);
        doc.due("STEP, and it TURNS", x.count(3), 4);
        doc.due("THE BOTTOM", x.stand(1), 1);
        x.turnTo(0);
        doc.due("no STEP by hand", x.count(3), 4);
        x.undo();
        x.undo();
        doc.due("STEP is undone, too", x.count(3), 3);
    }

    private void actsKept() {
        doc.says("ACTS (24 at most are kept, of more the oldest is forgotten; each can be undone, the latest first):");
        WheelRide x = Check.told("w12,99;f1,4;");
        for (int v = 1; v <= 24; v++) {
            x.limit(v);
            doc.due("kept", x.count(6), v);
        }
        x.limit(25);
        doc.due("24 at most", x.count(6), 24);
        x.limit(26);
        doc.due("24 at most yet", x.count(6), 24);
        for (int v = 25; v >= 2; v--) {
            doc.due("can be undone yet", x.undo(), v - 2);
            doc.due("the latest first", x.stand(2), v);
        }
        doc.due("the oldest two are forgotten", x.undo(), STATE);
        doc.due("they stay", x.stand(2), 2);
        x.limit(50);
        doc.due("an ACT anew", x.undo(), 0);
        doc.due("undone", x.stand(2), 2);
        WheelRide y = Check.told("w12,99;f1,4;");
        y.ballast(0, 9);
        y.steps(23);
        doc.due("24 together", y.count(6), 24);
        y.steps(24);
        doc.due("24 of 48", y.count(6), 24);
        for (int left = 23; left >= 0; left--) {
            y.undo();
        }
        doc.due("back by 24 STEPS", y.count(3), 23);
        doc.due("none left", y.undo(), STATE);
    }

    private void actStep() {
        doc.says("a STEP;");
        WheelRide x = Check.told("w4,99;g3,1;c9,1;f2,4;c5,1;");
        x.steps(4);
        String before = brief(x);
        x.steps(1);
        doc.due("a STEP is one ACT", x.count(6), 5);
        doc.due("giddy ones are OFF", x.stand(7), 1);
        doc.due("undone", x.undo(), 4);
        doc.same("undo()", brief(x), before);
        WheelRide y = Check.told("w4,1;f6,1;s1,1;");
        y.steps(4);
        before = brief(y);
        y.steps(1);
        doc.due("GONE, and it STUCK", y.stand(8), 2);
        doc.due("undone, too", y.undo(), 4);
        doc.same("undo() of one that STUCK", brief(y), before);
    }

    private static String brief(WheelRide x) {
        StringBuilder seen = new StringBuilder();
        for (int what = 0; what <= 8; what++) {
            seen.append(x.stand(what)).append(' ');
        }
        for (int p = 0; p < x.count(1); p++) {
            for (int what = 0; what <= 5; what++) {
                seen.append(x.party(p, what)).append(' ');
            }
        }
        return seen.append(x.count(3)).append(' ').append(x.count(4)).toString();
    }

    private void actByHand() {
        doc.says("THE BOTTOM is another GONDOLA (by hand; RIDDEN stays);");
        WheelRide x = Check.told("w4,1;f9,4;");
        x.steps(1);
        x.turnTo(3);
        doc.due("THE BOTTOM", x.stand(1), 3);
        doc.due("though it is not IN BALANCE", x.stand(4), 0);
        x.turnTo(0);
        doc.due("RIDDEN stays", x.party(0, 4), 0);
        doc.due("an ACT each", x.count(6), 3);
        x.undo();
        doc.due("undone", x.stand(1), 3);
        x.undo();
        doc.due("undone, too", x.stand(1), 0);
    }

    private void actBallastAndLimit() {
        doc.says("BALLAST of a GONDOLA, LIMIT is another;");
        WheelRide x = Check.told("w4,7;f9,4;");
        x.ballast(3, 9);
        x.limit(99);
        x.ballast(3, 0);
        x.limit(1);
        doc.due("an ACT each", x.count(6), 4);
        x.undo();
        doc.due("LIMIT undone", x.stand(2), 99);
        x.undo();
        doc.due("BALLAST undone", x.gondola(3, 2), 9);
        x.undo();
        doc.due("LIMIT undone, too", x.stand(2), 7);
        x.undo();
        doc.due("BALLAST undone, too", x.gondola(3, 2), 0);
        x.limit(7);
        x.ballast(3, 0);
        doc.due("the same once more is an ACT as well", x.count(6), 2);
    }

    private void actAgain() {
        doc.says("a PARTY that is OFF or GONE comes again (it WAITS; RIDDEN, WAITED 0).");
        WheelRide x = Check.told("w4,99;f1,4;g1,1;f1,4;c1,1;");
        x.steps(6);
        doc.due("OFF", x.party(1, 0), OFF);
        doc.due("GONE", x.party(3, 0), GONE);
        doc.due("RIDDEN of one OFF", x.party(1, 4), 1);
        doc.due("WAITED of one OFF", x.party(1, 5), 1);
        doc.due("WAITED of one GONE", x.party(3, 5), 2);
        x.again(1);
        x.again(3);
        for (int p = 1; p <= 3; p += 2) {
            doc.due("WAITS " + p, x.party(p, 0), WAITS);
            doc.due("RIDDEN 0 of " + p, x.party(p, 4), 0);
            doc.due("WAITED 0 of " + p, x.party(p, 5), 0);
            doc.due("in no GONDOLA " + p, x.party(p, 1), NONE);
        }
        doc.due("no STEP", x.count(3), 6);
        doc.due("an ACT each", x.undo(), 7);
        doc.due("GONE as before", x.party(3, 0), GONE);
        doc.due("WAITED as before", x.party(3, 5), 2);
        x.undo();
        doc.due("OFF as before", x.party(1, 0), OFF);
        doc.due("RIDDEN as before", x.party(1, 4), 1);
    }
}
