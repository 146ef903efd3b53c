/** Counts answers that are not as due, and prints each. */
final class Check {
    private int calls;
    private int wrong;

    void due(String call, long got, long want) {
        calls++;
        if (got != want) {
            wrong++;
            System.out.println(call + " answered " + got + ", due is " + want);
        }
    }

    void holds(String what, boolean so) {
        due(what, so ? 1 : 0, 1);
    }

    boolean isWell() {
        return wrong == 0;
    }

    /** Ends the test: with exit code 1, if an answer was not as due, or none was looked at. */
    void end() {
        System.out.println(calls + " answers, " + wrong + " not as due");
        if (wrong != 0 || calls == 0) {
            System.exit(1);
        }
    }

    static WheelRide told(String text) {
        WheelRide x = new WheelRide();
        int parties = read(x, text);
        if (parties < 1) {
            throw new IllegalStateException("the test's own text is not a wheel: " + text + " (" + parties + ")");
        }
        return x;
    }

    static void feed(WheelRide x, String text) {
        for (int i = 0; i < text.length(); i++) {
            x.feed(text.charAt(i));
        }
    }

    static int read(WheelRide x, String text) {
        feed(x, text);
        return x.wheel();
    }
}
