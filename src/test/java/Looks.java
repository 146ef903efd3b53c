/** Looks at all that a WheelRide shows, so that two of them can be told apart; a look stays far below 512 calls. */
final class Looks {
    private final WheelRide x;
    private final StringBuilder seen = new StringBuilder();

    private Looks(WheelRide x) {
        this.x = x;
    }

    /** An object with something of each sort in it: ROWS, a FAULT, bytes, ACTS, IMAGES, a TRACE, a FINDING. */
    static WheelRide busy() {
        WheelRide x = Check.told("w6,20;f3,2;l5,1;g2,4;s7,1;c4,3;f1,2;");
        Check.read(x, "w3,");
        x.row(1, 0, 3);
        x.set(1, 1, -12);
        x.row(2, 2, 4);
        x.set(2, 3, -32);
        x.row(3, 1, 0);
        x.image(0);
        x.steps(3);
        x.ballast(2, 4);
        x.limit(30);
        x.turnTo(5);
        x.steps(2);
        x.image(1);
        x.again(4);
        x.ask(1, 0);
        Check.feed(x, "w4");
        x.drop(7);
        return x;
    }

    /** Changes the object (what ACTS, IMAGES and ROWS hold shows in no other way): it is of no use then. */
    static String all(WheelRide x) {
        Looks looks = new Looks(x);
        looks.see("fault", x.fault());
        looks.wheel();
        looks.rows();
        looks.acts();
        looks.images();
        return looks.seen.toString();
    }

    private void see(String what, int answer) {
        seen.append(' ').append(what).append('=').append(answer);
    }

    private void wheel() {
        for (int what = 0; what <= 7; what++) {
            see("count" + what, x.count(what));
        }
        for (int i = 0; i <= 6; i++) {
            see("trace" + i, x.trace(i));
        }
        for (int p = 0; p < x.count(1); p++) {
            see("kind" + p, x.kind(p));
            for (int what = 0; what <= 5; what++) {
                see("party" + p + "." + what, x.party(p, what));
            }
        }
        for (int g = 0; g < x.count(2); g++) {
            see("ballast" + g, x.gondola(g, 2));
            see("place" + g, x.gondola(g, 0));
        }
        see("limit", x.stand(2));
        see("lean", x.stand(3));
    }

    private void rows() {
        for (int row = 0; row <= 7; row++) {
            for (int i = 0; i < 4 && row < 4; i++) {
                see("row" + row + "." + i, x.who(0, 1, row, i, 1));
            }
            see("drop" + row, x.drop(row));
        }
    }

    private void acts() {
        for (int i = 0; i < 25; i++) {
            int left = x.undo();
            see("undo", left);
            if (left < 0) {
                return;
            }
            brief();
        }
    }

    private void images() {
        for (int k = 0; k <= 1; k++) {
            see("restore" + k, x.restore(k));
            brief();
        }
    }

    private void brief() {
        see("step", x.count(3));
        see("ballast", x.count(4));
        see("ridden", x.count(5));
        see("bottom", x.stand(1));
        see("limit", x.stand(2));
        for (int what = 5; what <= 8; what++) {
            see("which" + what, x.stand(what));
        }
    }
}
