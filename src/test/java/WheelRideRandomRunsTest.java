import java.util.Random;

/** Long runs of drawn calls, each answered by WheelRide and by the Model; the draws are the same every time. */
public final class WheelRideRandomRunsTest {
    private static final int RUNS = 120, CALLS = 512;
    private static final Check CHECK = new Check();

    private final WheelRide x = new WheelRide();
    private final Model m = new Model();
    private final Random random;
    private final int run;

    private WheelRideRandomRunsTest(int run) {
        this.run = run;
        this.random = new Random(run);
    }

    public static void main(String[] args) {
        int runs = args.length > 0 ? Integer.parseInt(args[0]) : RUNS;
        for (int run = 0; run < runs && CHECK.isWell(); run++) {
            new WheelRideRandomRunsTest(run).go();
        }
        CHECK.end();
    }

    private void due(String call, long got, long want) {
        CHECK.due("run " + run + ": " + call, got, want);
    }

    /** Mostly from least to most, at times beside it or far off. */
    private int some(int least, int most) {
        int draw = random.nextInt(60);
        if (draw == 0) return least - 1;
        if (draw == 1) return most + 1;
        if (draw == 2) return random.nextInt();
        return least + random.nextInt(most - least + 1);
    }

    private void go() {
        int made = random.nextInt(20) == 0 ? 0 : tell(true);
        int dear = 0;
        while (made < CALLS && CHECK.isWell()) {
            int draw = random.nextInt(1000);
            if (draw < 4 && made < CALLS - 60) {
                made += tell(random.nextBoolean());
            } else if (draw < 30 && made < CALLS - 20) {
                made += watch();
            } else if (draw < 45 && dear < 3) {
                dear++;
                order();
                made += 2;
            } else {
                call(random.nextInt(36));
                made++;
            }
        }
    }

    private int tell(boolean well) {
        StringBuilder text = new StringBuilder("w");
        text.append(4 + random.nextInt(9)).append(',');
        text.append(random.nextInt(3) == 0 ? 1 + random.nextInt(99) : 1 + random.nextInt(20)).append(';');
        int parties = 1 + random.nextInt(well ? 6 : 7);
        for (int p = 0; p < parties; p++) {
            text.append("flgsc".charAt(random.nextInt(5))).append(1 + random.nextInt(9)).append(',');
            text.append(1 + random.nextInt(4)).append(';');
        }
        for (int i = random.nextInt(3); !well && i > 0; i--) {
            spoil(text);
        }
        for (int i = 0; i < text.length(); i++) {
            feed(text.charAt(i));
        }
        due("wheel() of " + text, x.wheel(), m.wheel());
        due("fault() of " + text, x.fault(), m.fault());
        return text.length() + 2;
    }

    private void spoil(StringBuilder text) {
        int at = random.nextInt(text.length());
        char other = "wflgsc0123456789,;x A".charAt(random.nextInt(21));
        switch (random.nextInt(4)) {
            case 0: text.setCharAt(at, other); break;
            case 1: text.insert(at, other); break;
            case 2: text.deleteCharAt(at); break;
            default: text.setLength(at + 1); break;
        }
    }

    private void feed(int letter) {
        due("feed(" + letter + ")", x.feed(letter), m.feed(letter));
    }

    /** A row that tells LEANS that truly come, at times a wrong one, then asks who it is by them. */
    private int watch() {
        int row = random.nextInt(8), n = 1 + random.nextInt(8), from = random.nextInt(3);
        int lane = random.nextInt(3);
        due("row(" + row + ", " + lane + ", .)", x.row(row, lane, n + from), m.row(row, lane, n + from));
        for (int i = 0; i < n; i++) {
            int lean = random.nextInt(25) == 0 ? random.nextInt(40) - 20 : Math.max(-40000, m.leans(i + 1));
            due("set(" + row + ", ., " + lean + ")", x.set(row, from + i, lean), m.set(row, from + i, lean));
        }
        int p = some(0, 5);
        for (int which = 0; which <= 4; which++) {
            String call = "who(" + p + ", " + which + ", " + row + ", " + from + ", " + n + ")";
            due(call, x.who(p, which, row, from, n), m.who(p, which, row, from, n));
        }
        return n + 8;
    }

    private void order() {
        int n = some(1, 40), k = some(-1, 6);
        due("order(" + n + ", " + k + ")", x.order(n, k), m.order(n, k));
        k = some(-1, 6);
        due("order(" + n + ", " + k + ")", x.order(n, k), m.order(n, k));
    }

    private void call(int which) {
        if (which < 14) {
            callDone(which);
        } else if (which < 27) {
            callForetold(which);
        } else {
            callRest(which);
        }
    }

    private void callDone(int which) {
        int a, b;
        switch (which) {
            case 0: case 1: case 2: case 3:
                a = random.nextInt(4) == 0 ? some(1, 24) : some(1, 6);
                due("steps(" + a + ")", x.steps(a), m.steps(a));
                break;
            case 4:
                a = some(0, 11);
                due("turnTo(" + a + ")", x.turnTo(a), m.turnTo(a));
                break;
            case 5:
                a = some(0, 11);
                b = random.nextInt(2) == 0 ? 0 : some(0, 9);
                due("ballast(" + a + ", " + b + ")", x.ballast(a, b), m.ballast(a, b));
                break;
            case 6:
                a = some(1, random.nextInt(3) == 0 ? 10 : 99);
                due("limit(" + a + ")", x.limit(a), m.limit(a));
                break;
            case 7: case 8:
                a = some(0, 5);
                due("again(" + a + ")", x.again(a), m.again(a));
                break;
            case 9: case 10:
                due("undo()", x.undo(), m.undo());
                break;
            case 11:
                a = some(0, 1);
                due("image(" + a + ")", x.image(a), m.image(a));
                break;
            case 12:
                a = some(0, 1);
                if (random.nextInt(3) == 0) due("restore(" + a + ")", x.restore(a), m.restore(a));
                break;
            default:
                a = some(0, 255);
                if (random.nextInt(4) == 0) feed(a);
                break;
        }
    }

    private void callForetold(int which) {
        int a = some(0, 5), n = some(0, 60), k = some(0, 3);
        switch (which) {
            case 14: due("ahead(" + a + ", " + n + ", " + k + ")", x.ahead(a, n, k), m.ahead(a, n, k)); break;
            case 15: due("leans(" + n + ")", x.leans(n), m.leans(n)); break;
            case 16: due("when(" + a + ", " + k + ")", x.when(a, k), m.when(a, k)); break;
            case 17: k = some(0, 1); due("first(" + k + ")", x.first(k), m.first(k)); break;
            case 18: n = some(1, 40); k = some(0, 1); due("load(" + n + ", " + k + ")", x.load(n, k), m.load(n, k)); break;
            case 19: n = some(1, 40); due("bear(" + n + ")", x.bear(n), m.bear(n)); break;
            case 20: n = some(0, 54); k = some(0, 2); due("sets(" + n + ", " + k + ")", x.sets(n, k), m.sets(n, k)); break;
            case 21: n = some(0, 999); due("share(" + a + ", " + n + ")", x.share(a, n), m.share(a, n)); break;
            case 22: case 23:
                k = some(0, 4);
                n = some(1, 20);
                due("byTurns(" + k + ", " + n + ")", x.byTurns(k, n), m.byTurns(k, n));
                break;
            case 24: case 25:
                n = some(0, 40);
                k = some(0, 10);
                a = some(0, 1);
                due("away(" + n + ", " + k + ", " + a + ")", x.away(n, k, a), m.away(n, k, a));
                break;
            default:
                int seed = some(1, 999999);
                k = some(0, 1);
                due("drawn(" + n + ", " + seed + ", " + k + ")", x.drawn(n, seed, k), m.drawn(n, seed, k));
                break;
        }
    }

    private void callRest(int which) {
        int a = some(0, 5), b = some(0, 5), row = some(0, 7), i = some(0, 9);
        switch (which) {
            case 27: due("party(" + a + ", " + b + ")", x.party(a, b), m.party(a, b)); break;
            case 28: a = some(0, 11); b = some(0, 3); due("gondola(" + a + ", " + b + ")", x.gondola(a, b), m.gondola(a, b)); break;
            case 29: a = some(0, 8); due("stand(" + a + ")", x.stand(a), m.stand(a)); break;
            case 30: due("as(" + a + ", " + b + ")", x.as(a, b), m.as(a, b)); break;
            case 31: b = some(0, 1); due("ask(" + a + ", " + b + ")", x.ask(a, b), m.ask(a, b)); break;
            case 32:
                due("kind(" + a + ")", x.kind(a), m.kind(a));
                due("trace(" + b + ")", x.trace(b), m.trace(b));
                break;
            case 33: a = some(0, 7); due("count(" + a + ")", x.count(a), m.count(a)); break;
            case 34: callRow(row, i); break;
            default:
                due("status()", x.status(), m.status());
                due("fault()", x.fault(), m.fault());
                break;
        }
    }

    private void callRow(int row, int i) {
        int other = random.nextInt(3) == 0 ? row : some(0, 7), j = some(0, 9), n = some(0, 9), v = random.nextInt();
        switch (random.nextInt(4)) {
            case 0:
                int lane = some(0, 2);
                n = some(-1, 40);
                due("row(" + row + ", " + lane + ", " + n + ")", x.row(row, lane, n), m.row(row, lane, n));
                break;
            case 1:
                due("set(" + row + ", " + i + ", " + v + ")", x.set(row, i, v), m.set(row, i, v));
                break;
            case 2:
                String call = "copy(" + row + ", " + i + ", " + other + ", " + j + ", " + n + ")";
                due(call, x.copy(row, i, other, j, n), m.copy(row, i, other, j, n));
                break;
            default:
                if (random.nextInt(3) == 0) due("drop(" + row + ")", x.drop(row), m.drop(row));
                break;
        }
    }
}
