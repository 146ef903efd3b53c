import java.util.function.ToLongFunction;

/** Terms, the first words and part 1: refusals and findings, ROWS, texts and their FAULTS. */
final class EdgesOfTexts {
    private static final int NONE = WheelRide.NONE, BAD = WheelRide.BAD, STATE = WheelRide.STATE, FULL = WheelRide.FULL;
    private static final int NULL = -1000011, PLACE = -1000012, KIND = -1000013, SIZE = -1000014, STORE = -1000015;
    private static final int FAULTY = -1000100;
    private static final String SIX = "w4,1;f1,1;l1,1;g1,1;s1,1;c1,1;f1,1;";

    private final Sentences doc;

    EdgesOfTexts(Sentences doc) {
        this.doc = doc;
    }

    void run() {
        doc.under("What it is");
        calls512();
        doc.under("Terms");
        numbers();
        divided();
        sets();
        refusals();
        findings();
        nothingChanges();
        rows();
        tape();
        tokens();
        wheelOfParties();
        law();
        party();
        wheelRead();
        faults();
        faultOutOfPlace();
        faultOfNumber();
        faultOfRoom();
    }

    private void calls512() {
        doc.says("An object is used for at most 512 calls after it has been made; what later calls answer is free.");
        WheelRide x = new WheelRide();
        for (int pair = 1; pair <= 255; pair++) {
            x.row(pair % 8, 2, 40);
            doc.due("call " + 2 * pair, x.count(0), Math.min(pair, 8));
        }
        doc.due("call 511", x.drop(7), 40);
        doc.due("call 512", x.count(0), 7);
        for (int i = 0; i < 5000; i++) {
            x.feed(i % 256);
            x.wheel();
        }
        doc.due("later calls end, too", x.count(7) >= 0 ? 1 : 0, 1);
    }

    private void numbers() {
        doc.says("Numbers go from 0 on.");
        WheelRide x = Check.told("w4,99;f7,1;");
        doc.due("ROW 0", x.row(0, 0, 1), 1);
        doc.due("ITEM 0", x.set(0, 0, 5), 5);
        doc.due("PARTY 0", x.party(0, 2), 7);
        doc.due("GONDOLA 0", x.gondola(0, 0), 0);
        doc.due("STEP 0", x.count(3), 0);
        doc.due("the 0-th of an ORDER", x.order(1, 0), 0);
        doc.due("IMAGE 0", x.image(0), 1);
        doc.due("ASK 0", x.ask(0, 0), 7);
        doc.due("number 0 of THE TRACE", x.trace(0), 11);
        doc.due("ROW -1", x.row(-1, 0, 1), BAD);
        doc.due("ITEM -1", x.set(0, -1, 5), PLACE);
        doc.due("PARTY -1", x.party(-1, 2), BAD);
        doc.due("GONDOLA -1", x.gondola(-1, 0), BAD);
        doc.due("IMAGE -1", x.image(-1), BAD);
        doc.due("ASK -1", x.ask(0, -1), BAD);
        doc.due("number -1 of THE TRACE", x.trace(-1), NONE);
    }

    private void divided() {
        doc.says("All that is divided is cut towards 0, but fractions, told as two numbers in lowest terms (0 is 0 by 1).");
        WheelRide x = Check.told("w4,99;g1,1;g1,1;g1,1;");
        x.steps(7);
        doc.due("5 by 3 is 1, the third one's", x.share(2, 5), 1);
        doc.due("8 by 3 is 2, the third one's", x.share(2, 8), 2);
        doc.due("9 by 3 is 3, the third one's", x.share(2, 9), 3);
        WheelRide y = Check.told("w4,1;f9,1;f9,1;");
        fraction(y, 1, 5, 1, 4);
        fraction(y, 1, 2, 1, 25);
        fraction(y, 1, 3, 9, 100);
        fraction(y, 1, 0, 0, 1);
        fraction(y, 1, 10, 1, 1);
        fraction(y, 0, 7, 1, 1);
    }

    private void fraction(WheelRide x, int n, int p, long above, long below) {
        doc.due("above, away(" + n + ", " + p + ")", x.away(n, p, 0), above);
        doc.due("below, away(" + n + ", " + p + ")", x.away(n, p, 1), below);
    }

    private void sets() {
        doc.says("Sets are bits.");
        WheelRide x = Check.told("w12,99;f1,1;f1,1;f1,1;f1,1;f1,1;f1,1;");
        doc.due("all six", x.stand(5), 63);
        x.steps(1);
        doc.due("PARTY 0 alone", x.stand(6), 1);
        doc.due("all but PARTY 0", x.stand(5), 62);
        x.steps(5);
        doc.due("none WAITS", x.stand(5), 0);
        doc.due("none is OFF", x.steps(6), 0);
        doc.due("PARTY 0 is OFF", x.steps(1), 1);
        doc.due("0 and 1 are", x.steps(1), 3);
        doc.due("all are", x.steps(4), 63);
        doc.due("PARTY 5 alone WAITS", x.again(5), 32);
    }

    private void refusals() {
        doc.says("Refusals are answers, the first of these that fits, but as told: BAD (a number is not as told; there is"
            + " no such thing), STATE (as told), FULL (as told), then FINDINGS, of several the first in time:");
        WheelRide x = new WheelRide();
        doc.due("BAD ahead of STATE: image", x.image(2), BAD);
        doc.due("BAD ahead of STATE: restore", x.restore(2), BAD);
        doc.due("STATE: restore", x.restore(1), STATE);
        doc.due("STATE ahead of BAD, as told", x.steps(0), STATE);
        doc.due("no such thing: PARTY", x.again(0), BAD);
        doc.due("no such thing: GONDOLA", x.turnTo(0), BAD);
        for (int i = 0; i < 100; i++) {
            x.feed('w');
        }
        doc.due("BAD ahead of FULL: feed", x.feed(256), BAD);
        doc.due("FULL: feed", x.feed(255), FULL);
        x.row(0, 0, 2);
        x.row(1, 1, 2);
        doc.due("BAD ahead of SIZE", x.row(8, 0, -1), BAD);
        doc.due("BAD ahead of NULL", x.copy(7, 0, 8, 0, 0), BAD);
        doc.due("NULL ahead of STORE", x.copy(0, 0, 7, 0, 0), NULL);
        doc.due("NULL ahead of PLACE", x.set(7, -1, 0), NULL);
        doc.due("STORE ahead of PLACE", x.copy(0, 0, 1, 0, 3), STORE);
        WheelRide y = Check.told("w4,99;f1,1;");
        doc.due("BAD ahead of STATE: turnTo", y.turnTo(4), BAD);
        doc.due("STATE: turnTo", y.turnTo(0), STATE);
        doc.due("BAD ahead of STATE: again", y.again(1), BAD);
        doc.due("STATE: again", y.again(0), STATE);
        doc.due("BAD ahead of NULL: who", y.who(0, 5, 0, 0, 1), BAD);
        doc.due("BAD ahead of KIND: as", y.as(0, 6), BAD);
        doc.due("KIND: as", y.as(0, 5), KIND);
        for (int i = 0; i < 41; i++) {
            y.steps(24);
        }
        doc.due("BAD ahead of FULL: steps", y.steps(25), BAD);
        doc.due("FULL: steps", y.steps(24), FULL);
    }

    private void findings() {
        doc.says("-1000010 less 1 NULL (a ROW that is missing), 2 PLACE (no such place of a ROW), 3 KIND (a PARTY that is"
            + " not that), 4 SIZE (fewer than none), 5 STORE (ROWS of two LANES).");
        WheelRide x = Check.told("w4,99;f1,1;");
        x.row(0, 0, 2);
        x.row(1, 2, 2);
        found(x, "NULL", x.drop(7), 1);
        found(x, "PLACE below", x.set(0, -1, 0), 2);
        found(x, "KIND", x.as(0, 4), 3);
        found(x, "SIZE", x.row(0, 0, -1), 4);
        found(x, "STORE", x.copy(0, 0, 1, 0, 1), 5);
        found(x, "PLACE beyond", x.set(0, 2, 0), 2);
    }

    private void found(WheelRide x, String call, int got, int number) {
        doc.due(call, got, -1000010 - number);
        doc.due("status() behind " + call, x.status(), number);
    }

    /** The same object twice, once with the call and once without: they must look the same. */
    private void unchanged(String call, ToLongFunction<WheelRide> made, long answer) {
        WheelRide x = Looks.busy();
        int before = x.status();
        doc.due(call, made.applyAsLong(x), answer);
        boolean found = answer < -1000010 && answer >= -1000015;
        doc.due("status() behind " + call, x.status(), found ? -1000010 - answer : before);
        doc.same(call, Looks.all(x), Looks.all(Looks.busy()));
    }

    private void nothingChanges() {
        doc.says("What is refused, or found, changes nothing but status().");
        refusedRows();
        refusedDeeds();
        refusedForetold();
        fullChangesNothing();
    }

    private void refusedRows() {
        unchanged("row BAD", x -> x.row(1, 3, 2), BAD);
        unchanged("row BAD n", x -> x.row(1, 0, 41), BAD);
        unchanged("row SIZE", x -> x.row(1, 2, -1), SIZE);
        unchanged("row SIZE of a missing one", x -> x.row(0, 2, -1), SIZE);
        unchanged("set BAD", x -> x.set(8, 0, 7), BAD);
        unchanged("set NULL", x -> x.set(0, 0, 7), NULL);
        unchanged("set PLACE", x -> x.set(1, 3, 7), PLACE);
        unchanged("copy BAD", x -> x.copy(1, 0, 8, 0, 1), BAD);
        unchanged("copy NULL", x -> x.copy(1, 0, 0, 0, 1), NULL);
        unchanged("copy STORE", x -> x.copy(2, 0, 1, 0, 3), STORE);
        unchanged("copy PLACE in part", x -> x.copy(1, 0, 1, 1, 3), PLACE);
        unchanged("copy PLACE of an empty one", x -> x.copy(3, 0, 3, 0, 1), PLACE);
        unchanged("drop BAD", x -> x.drop(-1), BAD);
        unchanged("drop NULL", x -> x.drop(0), NULL);
        unchanged("feed BAD", x -> x.feed(256), BAD);
    }

    private void refusedDeeds() {
        unchanged("steps BAD 0", x -> x.steps(0), BAD);
        unchanged("steps BAD 25", x -> x.steps(25), BAD);
        unchanged("turnTo BAD", x -> x.turnTo(6), BAD);
        unchanged("turnTo STATE", x -> x.turnTo(x.stand(1)), STATE);
        unchanged("ballast BAD", x -> x.ballast(2, 10), BAD);
        unchanged("limit BAD", x -> x.limit(100), BAD);
        unchanged("again BAD", x -> x.again(6), BAD);
        unchanged("again STATE", x -> x.again(0), STATE);
        unchanged("party BAD", x -> x.party(0, 6), BAD);
        unchanged("gondola BAD", x -> x.gondola(0, 4), BAD);
        unchanged("stand BAD", x -> x.stand(9), BAD);
        unchanged("image BAD", x -> x.image(2), BAD);
        unchanged("restore BAD", x -> x.restore(2), BAD);
        unchanged("kind BAD", x -> x.kind(6), BAD);
        unchanged("as BAD", x -> x.as(0, 6), BAD);
        unchanged("as KIND", x -> x.as(0, 2), KIND);
        unchanged("ask BAD leaves THE TRACE", x -> x.ask(0, 2), BAD);
        unchanged("trace NONE", x -> x.trace(16), NONE);
        unchanged("count BAD", x -> x.count(8), BAD);
    }

    private void refusedForetold() {
        unchanged("ahead BAD", x -> x.ahead(0, 61, 0), BAD);
        unchanged("leans BAD", x -> x.leans(61), BAD);
        unchanged("when BAD", x -> x.when(0, 0), BAD);
        unchanged("first BAD", x -> x.first(2), BAD);
        unchanged("order BAD", x -> x.order(41, 0), BAD);
        unchanged("load BAD", x -> x.load(41, 0), BAD);
        unchanged("bear BAD", x -> x.bear(41), BAD);
        unchanged("sets BAD", x -> x.sets(55, 0), BAD);
        unchanged("share BAD", x -> x.share(0, 1000), BAD);
        unchanged("byTurns BAD", x -> x.byTurns(5, 1), BAD);
        unchanged("who BAD", x -> x.who(0, 5, 2, 0, 1), BAD);
        unchanged("who NULL", x -> x.who(0, 0, 0, 0, 1), NULL);
        unchanged("who PLACE", x -> x.who(0, 0, 2, 0, 5), PLACE);
        unchanged("away BAD", x -> x.away(41, 5, 0), BAD);
        unchanged("drawn BAD", x -> x.drawn(61, 5, 0), BAD);
    }

    private void fullChangesNothing() {
        WheelRide x = Looks.busy();
        for (int i = x.count(7); i < 100; i++) {
            x.feed('w');
        }
        doc.due("FULL", x.feed('w'), FULL);
        doc.due("bytes behind FULL", x.count(7), 100);
        doc.due("status() behind FULL", x.status(), 1);
        WheelRide y = Check.told("w4,99;l1,1;");
        y.drop(0);
        for (int i = 0; i < 41; i++) {
            y.steps(24);
        }
        y.turnTo(1);
        doc.due("FULL by one", y.steps(16), FULL);
        doc.due("STEP behind FULL", y.count(3), 984);
        doc.due("bottom behind FULL", y.stand(1), 1);
        doc.due("status() behind FULL", y.status(), 1);
        doc.due("ACTS behind FULL", y.undo(), 23);
        doc.due("the latest ACT behind FULL", y.stand(1), 0);
        doc.due("STATE with none to undo", new WheelRide().undo(), STATE);
    }

    private void rows() {
        doc.says("ROWS 0 .. 7 are missing (at first), or have a LANE (0 bytes, 1 shorts, 2 ints) and 0 to 40 ITEMS, 0 at first.");
        WheelRide x = new WheelRide();
        for (int row = 0; row <= 7; row++) {
            doc.due("ROW " + row + " is missing", x.drop(row), NULL);
            doc.due("ROW " + row + " with no ITEM", x.row(row, 0, 0), 0);
            doc.due("ROW " + row + " is there", x.drop(row), 0);
        }
        doc.due("ROW 8", x.row(8, 0, 0), BAD);
        int[] lowest = {-128, -32768, Integer.MIN_VALUE};
        for (int lane = 0; lane <= 2; lane++) {
            doc.due("LANE " + lane, x.row(lane, lane, 40), 40);
            doc.due("its highest", x.set(lane, 39, -lowest[lane] - 1), -lowest[lane] - 1);
            doc.due("one above that", x.set(lane, 39, -lowest[lane]), lowest[lane]);
            doc.due("LANE " + lane + " with 41", x.row(lane, lane, 41), BAD);
        }
        doc.due("LANE 3", x.row(0, 3, 1), BAD);
        doc.due("LANE -1", x.row(0, -1, 1), BAD);
        zerosAtFirst();
    }

    /** When all are OFF and there is no BALLAST, LEAN stays 0 by all 99 LIMITS: so who() tells an ITEM that is 0. */
    private void zerosAtFirst() {
        WheelRide x = Check.told("w4,99;g1,1;");
        x.steps(5);
        for (int lane = 0; lane <= 2; lane++) {
            x.row(lane, lane, 40);
            for (int i = 0; i < 40; i++) {
                doc.due("ITEM " + i + " of LANE " + lane + " at first", x.who(0, 3, lane, i, 1), 99);
            }
        }
        x.set(2, 0, 1);
        x.set(2, 39, 1);
        doc.due("an ITEM that is not 0", x.who(0, 3, 2, 39, 1), 0);
        x.row(2, 2, 40);
        doc.due("0 once more in place of it", x.who(0, 3, 2, 39, 1), 99);
        doc.due("the first, too", x.who(0, 3, 2, 0, 1), 99);
        x.set(2, 39, 1);
        x.row(2, 2, 1);
        x.row(2, 2, 40);
        doc.due("0 once more behind a shorter one", x.who(0, 3, 2, 39, 1), 99);
        x.set(2, 39, 1);
        x.drop(2);
        x.row(2, 2, 40);
        doc.due("0 once more behind none", x.who(0, 3, 2, 39, 1), 99);
    }

    private void tape() {
        doc.says("TEXTS: THE TAPE has at most 100 bytes, that come one by one;");
        WheelRide x = new WheelRide();
        doc.due("none", x.count(7), 0);
        for (int i = 1; i <= 100; i++) {
            doc.due("byte " + i, x.feed(i <= SIX.length() ? SIX.charAt(i - 1) : 'f'), i);
        }
        doc.due("byte 101", x.feed('f'), FULL);
        doc.due("bytes", x.count(7), 100);
        doc.due("100 bytes are read", x.wheel(), FAULTY - SIX.length());
        doc.due("the FAULT", x.fault(), 3);
        doc.due("none then", x.count(7), 0);
        doc.due("the first one then", x.feed('w'), 1);
        WheelRide y = new WheelRide();
        Check.feed(y, "w4,1;");
        Check.feed(y, "f1,1;");
        doc.due("bytes come behind one another", y.wheel(), 1);
    }

    private void good(String text, int parties) {
        WheelRide x = new WheelRide();
        doc.due(text, Check.read(x, text), parties);
        doc.due("fault() of " + text, x.fault(), 0);
        doc.due("PARTIES of " + text, x.count(1), parties);
    }

    private void faulty(String text, int place, int number) {
        WheelRide x = new WheelRide();
        doc.due(text, Check.read(x, text), FAULTY - place);
        doc.due("fault() of " + text, x.fault(), number);
        doc.due("no WHEEL by " + text, x.stand(0), STATE);
    }

    private void tokens() {
        doc.says("TOKENS: letters a to z (each by itself), NUMBERS (figures, 2 at most), SIGNS , and ; nothing else.");
        good("w4,1;f1,1;", 1);
        good("w04,01;f01,01;", 1);
        faulty("ww4,1;f1,1;", 1, 1);
        faulty("w4,1;ff1,1;", 6, 1);
        faulty("w004,1;f1,1;", 1, 1);
        faulty("w4,001;f1,1;", 3, 1);
        for (char c = 'a'; c <= 'z'; c++) {
            if ("flgsc".indexOf(c) < 0) {
                faulty("w4,1;" + c + "1,1;", 5, 1);
            }
        }
        for (char c : new char[] {0, 9, 10, 13, ' ', '+', '-', '.', '/', ':', '<', '@', 'F', 'W', '[', '`', '{', 127, 128, 230, 255}) {
            faulty("w4,1;" + c + "1,1;", 5, 1);
            faulty("w" + c + ",1;f1,1;", 1, 1);
            faulty("w4" + c + "1;f1,1;", 2, 1);
            faulty("w4,1" + c + "f1,1;", 4, 1);
            faulty("w4,1;f1,1;" + c, 10, 1);
        }
    }

    private void wheelOfParties() {
        doc.says("wheel: law party { party }.");
        faulty("", 0, 1);
        faulty("f1,1;", 0, 1);
        faulty("w4,1;", 5, 1);
        good("w4,1;f1,1;", 1);
        good("w4,1;f1,1;f1,1;", 2);
        faulty("w4,1;w4,1;f1,1;", 5, 1);
        faulty("w4,1;f1,1;w4,1;", 10, 1);
        faulty("w4,1;f1,1;;", 10, 1);
        faulty("w4,1;f1,1;f", 11, 1);
    }

    private void law() {
        doc.says("law: w GONDOLAS , LIMIT ; (4 to 12: GONDOLAS 0, 1, ..; 1 to 99).");
        for (int n = 0; n <= 99; n++) {
            if (n >= 4 && n <= 12) {
                WheelRide x = Check.told("w" + n + ",1;f1,1;");
                doc.due("GONDOLAS " + n, x.stand(0), n);
                doc.due("the last of " + n, x.gondola(n - 1, 0), n - 1);
                doc.due("beyond " + n, x.gondola(n, 0), BAD);
            } else {
                faulty("w" + n + ",1;f1,1;", 1, 2);
            }
        }
        faulty("w4,0;f1,1;", 3, 2);
        faulty("w4,00;f1,1;", 3, 2);
        doc.due("LIMIT 1", Check.told("w4,1;f1,1;").stand(2), 1);
        doc.due("LIMIT 99", Check.told("w4,99;f1,1;").stand(2), 99);
        faulty("w4,100;f1,1;", 3, 1);
        faulty("w4,1f1,1;", 4, 1);
        faulty("w4 1;f1,1;", 2, 1);
        faulty("w;1;f1,1;", 1, 1);
    }

    private void party() {
        doc.says("party: SORT WEIGHT , ROUNDS ; (SORT: f a family, l lovers, g giddy ones, s a solitary one, c a critic;"
            + " 1 to 9; 1 to 4; PARTIES 0 .. 5, 6 at most).");
        for (int kind = 1; kind <= 5; kind++) {
            char sort = "flgsc".charAt(kind - 1);
            doc.due("SORT " + sort, Check.told("w4,1;" + sort + "1,1;").kind(0), kind);
        }
        for (int n = 0; n <= 99; n++) {
            if (n < 1 || n > 9) faulty("w4,1;f" + n + ",1;", 6, 2);
            else doc.due("WEIGHT " + n, Check.told("w4,1;f" + n + ",1;").party(0, 2), n);
            if (n < 1 || n > 4) faulty("w4,1;f1," + n + ";", 8, 2);
            else doc.due("ROUNDS " + n, Check.told("w4,1;f1," + n + ";").party(0, 3), n);
        }
        good(SIX, 6);
        doc.due("PARTY 5", Check.told(SIX).kind(5), 1);
        doc.due("PARTY 6", Check.told(SIX).kind(6), BAD);
        faulty(SIX + "f1,1;", SIX.length(), 3);
    }

    private void wheelRead() {
        doc.says("A WHEEL that is read stands in place of the one before (none at first): STEP 0, GONDOLA 0 is at THE BOTTOM,"
            + " no BALLAST, all PARTIES WAIT; no ACT can be undone.");
        WheelRide x = new WheelRide();
        doc.due("none at first", x.stand(0), STATE);
        doc.due("no PARTIES at first", x.count(1), 0);
        Check.read(x, "w12,99;g9,4;c9,4;c9,4;f9,4;f9,4;f9,4;");
        for (int g = 0; g < 12; g++) {
            x.ballast(g, 9);
        }
        x.steps(14);
        doc.due("the one before: STEP", x.count(3), 14);
        doc.due("what was foretold of the one before", x.ahead(0, 1, 0), 2);
        doc.due("another one", Check.read(x, "w12,3;s2,1;l3,2;f4,3;f5,4;f6,1;c7,2;"), 6);
        doc.due("STEP 0", x.count(3), 0);
        doc.due("GONDOLA 0 is at THE BOTTOM", x.stand(1), 0);
        doc.due("LIMIT", x.stand(2), 3);
        doc.due("no BALLAST", x.count(4), 0);
        doc.due("all WAIT", x.stand(5), 63);
        doc.due("RIDDEN of all", x.count(5), 0);
        for (int p = 0; p < 6; p++) {
            doc.due("WAITED of " + p, x.party(p, 5), 0);
        }
        doc.due("no ACT", x.count(6), 0);
        doc.due("none to undo", x.undo(), STATE);
        doc.due("fewer", Check.read(x, "w4,1;f1,1;"), 1);
        doc.due("GONDOLAS of the new one", x.gondola(4, 0), BAD);
        doc.due("PARTIES of the new one", x.party(1, 0), BAD);
    }

    private void faults() {
        doc.says("FAULTS, the first TOKEN that has one (its first byte), of one TOKEN the least:");
        faulty("w3,0;x0,0;", 1, 2);
        faulty("w4,0;x0,0;", 3, 2);
        faulty("w4,1;x0,0;", 5, 1);
        faulty("w4,1;f0,0;", 6, 2);
        faulty("w4,1;f1,0x", 8, 2);
        faulty("w13,1;f1,1;", 1, 2);
        faulty("w4,1;f10,1;", 6, 2);
        faulty("w12,99;f9,99;", 10, 2);
        faulty("w4,1;00", 5, 1);
        faulty("w4,1;99", 5, 1);
        faulty(SIX + "w", SIX.length(), 1);
        faulty(SIX + "00", SIX.length(), 1);
    }

    private void faultOutOfPlace() {
        doc.says("1 it cannot stand there, or is none (a run of three figures, at its first; the end: how many bytes there are);");
        faulty("4w,1;f1,1;", 0, 1);
        faulty("w,4;f1,1;", 1, 1);
        faulty("w000,1;f1,1;", 1, 1);
        faulty("w4,999;f1,1;", 3, 1);
        faulty("w4,1;f001,1;", 6, 1);
        faulty("w4,1;f1,001;", 8, 1);
        faulty("w4,1;f1,0012;", 8, 1);
        faulty("w4,1;f1,1;001", 10, 1);
        String text = "w12,99;f9,4;";
        for (int end = 0; end < text.length(); end++) {
            boolean withinNumber = end == 2 && text.charAt(1) == '1';
            faulty(text.substring(0, end), withinNumber ? 1 : end, withinNumber ? 2 : 1);
        }
        good(text, 1);
    }

    private void faultOfNumber() {
        doc.says("2 a NUMBER that is not as told;");
        faulty("w03,1;f1,1;", 1, 2);
        faulty("w4,00;f1,1;", 3, 2);
        faulty("w4,1;f00,1;", 6, 2);
        faulty("w4,1;f1,05;", 8, 2);
        faulty("w4,1;f1,1;c1,5;", 13, 2);
        faulty("w99", 1, 2);
    }

    private void faultOfRoom() {
        doc.says("3 a party more than there is room for (its letter).");
        for (char c : "flgsc".toCharArray()) {
            faulty(SIX + c, SIX.length(), 3);
            faulty(SIX + c + "0,0;", SIX.length(), 3);
            faulty(SIX + c + "000", SIX.length(), 3);
        }
        faulty(SIX + "f1,1;q", SIX.length(), 3);
        WheelRide x = Check.told(SIX);
        doc.due("room anew for another WHEEL", Check.read(x, SIX), 6);
    }
}
