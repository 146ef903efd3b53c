/** Terms, part 4: the BODIES of SIZE and MARK, which of them begin, and what they leave in THE TRACE. */
final class EdgesOfAsks {
    private static final int NONE = WheelRide.NONE;
    private static final int SIZE = 0, MARK = 1;
    private static final int FAMILY = 0, LOVERS = 1, GIDDY = 2, SOLITARY = 3, CRITIC = 4;

    private final Sentences doc;
    private final WheelRide x = Check.told("w4,99;f3,4;l5,4;g7,1;s2,4;c8,4;");

    /** All but the critic, which is GONE, have RIDDEN 1 behind 7 STEPS. */
    EdgesOfAsks(Sentences doc) {
        this.doc = doc;
        x.steps(7);
    }

    void run() {
        doc.under("Terms");
        doc.says("ASKS of PARTIES, by BODIES, each of which leaves its number in THE TRACE as it begins (the first 16):");
        asked(LOVERS, SIZE, -9, 12, 11, 10, 24, 21, 20);
        doc.due("a BODY that begins later stands later", x.trace(3), 24);
        for (int i = 6; i <= 17; i++) {
            doc.due("no more", x.trace(i), NONE);
        }
        size();
        mark();
        doc.says("(Of an ask the BODY told for the KIND begins, else that of the nearest KIND that it is, too, else the one that is"
            + " lent; SIZE, MARK within others are asked of the same PARTY anew.)");
        asked(LOVERS, MARK, 4, 24, 21, 20);
        asked(GIDDY, SIZE, -990, 11, 10, 22, 21, 20);
        asked(CRITIC, MARK, 188, 23, 20, 14, 13, 10);
        asked(LOVERS, SIZE, -9, 12, 11, 10, 24, 21, 20);
        asked(SOLITARY, MARK, 101, 23, 20, 13, 10);
        asked(FAMILY, SIZE, 4, 11, 10, 21, 20);
    }

    private void asked(int one, int what, int answer, int... bodies) {
        doc.due("ask(" + one + ", " + what + ")", x.ask(one, what), answer);
        for (int i = 0; i < bodies.length; i++) {
            doc.due("trace(" + i + ") of ask(" + one + ", " + what + ")", x.trace(i), bodies[i]);
        }
        doc.due("trace(" + bodies.length + ") of ask(" + one + ", " + what + ")", x.trace(bodies.length), NONE);
    }

    /** SIZE of a new WHEEL's only PARTY, of which RIDDEN and the number are 0. */
    private void alone(String party, int what, int answer) {
        doc.due(party, Check.told("w4,99;" + party).ask(0, what), answer);
    }

    private void size() {
        doc.says("0 SIZE: 10 lent to all PARTIES: WEIGHT.");
        alone("f1,1;", SIZE, 1);
        alone("f9,4;", SIZE, 9);
        doc.says("11 of FAMILIES: what 10 gives, and MARK.");
        asked(FAMILY, SIZE, 3 + 1, 11, 10, 21, 20);
        doc.says("12 of LOVERS: 0 less what 11 gives.");
        asked(LOVERS, SIZE, -(5 + 4), 12, 11, 10, 24, 21, 20);
        alone("l1,1;", SIZE, -1);
        doc.says("13 of SOLITARY ones: what 10 gives, less 100.");
        asked(SOLITARY, SIZE, 2 - 100, 13, 10);
        alone("s9,1;", SIZE, -91);
        alone("s1,1;", SIZE, -99);
        doc.says("14 of CRITICS: what 13 gives, twice.");
        asked(CRITIC, SIZE, 2 * (8 - 100), 14, 13, 10);
        alone("c9,1;", SIZE, -182);
        alone("c1,1;", SIZE, -198);
    }

    private void mark() {
        doc.says("1 MARK: 20 lent to all PARTIES: the number.");
        alone("f9,1;", MARK, 0);
        WheelRide y = Check.told("w4,99;f1,1;f1,1;f1,1;f1,1;f1,1;f1,1;");
        for (int p = 0; p < 6; p++) {
            doc.due("MARK of " + p, y.ask(p, MARK), p);
        }
        doc.says("21 of FAMILIES: what 20 gives, and RIDDEN.");
        asked(FAMILY, MARK, 0 + 1, 21, 20);
        doc.says("22 of GIDDY ones: what 21 gives, less 1000.");
        asked(GIDDY, MARK, 2 + 1 - 1000, 22, 21, 20);
        doc.says("23 of SOLITARY ones: what 20 gives, less SIZE.");
        asked(SOLITARY, MARK, 3 + 98, 23, 20, 13, 10);
        doc.says("24 of LOVERS: what 21 gives, twice.");
        asked(LOVERS, MARK, 2 * (1 + 1), 24, 21, 20);
        ridden99();
    }

    private void ridden99() {
        WheelRide y = Check.told("w4,99;f9,4;f9,4;f9,4;f9,4;f9,4;l9,1;");
        doc.due("lovers at first", y.ask(5, MARK), 10);
        y = Check.told("w4,99;l9,1;");
        for (int i = 0; i < 17; i++) {
            y.steps(24);
        }
        doc.due("RIDDEN 99", y.party(0, 4), 99);
        doc.due("lovers with RIDDEN 99", y.ask(0, MARK), 198);
        doc.due("their SIZE", y.ask(0, SIZE), -207);
    }
}
