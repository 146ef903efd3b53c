import java.math.BigInteger;
import java.util.ArrayDeque;
import java.util.ArrayList;
import java.util.Arrays;
import java.util.Deque;
import java.util.HashMap;
import java.util.List;
import java.util.Map;
import java.util.function.IntPredicate;
import java.util.regex.Matcher;
import java.util.regex.Pattern;

/**
 * The document once more, told another way and without care for speed: classes for the kinds, whole copies for
 * what is foretold, regular expressions for texts. Long runs of calls on it and on WheelRide must answer the same.
 */
final class Model {
    static final int NONE = -1000000, BAD = -1000001, STATE = -1000002, FULL = -1000003;

    enum How { WAITS, ABOARD, OFF, GONE }

    abstract static class Party implements Cloneable {
        int number, weight, rounds, gondola, ridden, waited;
        How how = How.WAITS;

        abstract int kind();

        boolean isDone(State s) {
            return ridden >= rounds;
        }

        int patience() {
            return Integer.MAX_VALUE;
        }

        int size(List<Integer> trace) {
            trace.add(10);
            return weight;
        }

        int mark(List<Integer> trace) {
            trace.add(20);
            return number;
        }

        Party twin() {
            try {
                return (Party) clone();
            } catch (CloneNotSupportedException e) {
                throw new IllegalStateException(e);
            }
        }
    }

    static class Family extends Party {
        @Override int kind() {
            return 1;
        }

        @Override int size(List<Integer> trace) {
            trace.add(11);
            int lent = super.size(trace);
            return lent + mark(trace);
        }

        @Override int mark(List<Integer> trace) {
            trace.add(21);
            return super.mark(trace) + ridden;
        }
    }

    static final class Lovers extends Family {
        @Override int kind() {
            return 2;
        }

        @Override boolean isDone(State s) {
            return super.isDone(s) && s.parties.stream().anyMatch(p -> p.how == How.WAITS);
        }

        @Override int size(List<Integer> trace) {
            trace.add(12);
            return -super.size(trace);
        }

        @Override int mark(List<Integer> trace) {
            trace.add(24);
            return 2 * super.mark(trace);
        }
    }

    static final class Giddy extends Family {
        @Override int kind() {
            return 3;
        }

        @Override boolean isDone(State s) {
            return ridden > 0;
        }

        @Override int mark(List<Integer> trace) {
            trace.add(22);
            return super.mark(trace) - 1000;
        }
    }

    static class Solitary extends Party {
        @Override int kind() {
            return 4;
        }

        @Override int patience() {
            return 5;
        }

        @Override int size(List<Integer> trace) {
            trace.add(13);
            return super.size(trace) - 100;
        }

        @Override int mark(List<Integer> trace) {
            trace.add(23);
            int lent = super.mark(trace);
            return lent - size(trace);
        }
    }

    static final class Critic extends Solitary {
        @Override int kind() {
            return 5;
        }

        @Override int patience() {
            return 2;
        }

        @Override boolean isDone(State s) {
            return super.isDone(s) || ridden > 0 && (s.lean() >= 5 * s.limit || s.lean() <= -5 * s.limit);
        }

        @Override int size(List<Integer> trace) {
            trace.add(14);
            return super.size(trace) * 2;
        }
    }

    static Party ofKind(int kind) {
        switch (kind) {
            case 1: return new Family();
            case 2: return new Lovers();
            case 3: return new Giddy();
            case 4: return new Solitary();
            default: return new Critic();
        }
    }

    static final class State {
        int limit, bottom, step;
        int[] ballast;
        List<Party> parties = new ArrayList<>();

        State twin() {
            State s = new State();
            s.limit = limit;
            s.bottom = bottom;
            s.step = step;
            s.ballast = ballast.clone();
            for (Party p : parties) {
                s.parties.add(p.twin());
            }
            return s;
        }

        static int pull(int place, int n) {
            return 2 * place <= n ? place * (n - 2 * place) : -pull(n - place, n);
        }

        int place(int g) {
            return Math.floorMod(g - bottom, ballast.length);
        }

        int lean() {
            int sum = 0;
            for (int g = 0; g < ballast.length; g++) {
                Party p = in(g);
                sum += (ballast[g] + (p == null ? 0 : p.weight)) * pull(place(g), ballast.length);
            }
            return sum;
        }

        boolean balanced() {
            return lean() <= 10 * limit && lean() >= -10 * limit;
        }

        Party in(int g) {
            return parties.stream().filter(p -> p.how == How.ABOARD && p.gondola == g).findFirst().orElse(null);
        }

        int bits(How how) {
            return parties.stream().filter(p -> p.how == how).mapToInt(p -> 1 << p.number).sum();
        }

        int ridden() {
            return parties.stream().mapToInt(p -> p.ridden).sum();
        }

        void again(int p) {
            parties.get(p).how = How.WAITS;
            parties.get(p).ridden = 0;
            parties.get(p).waited = 0;
        }

        boolean step(List<Integer> rank) {
            Party low = in(bottom);
            if (low != null && low.isDone(this)) {
                low.how = How.OFF;
            }
            if (in(bottom) == null) {
                for (int p : rank) {
                    Party one = parties.get(p);
                    if (one.how == How.WAITS) {
                        one.how = How.ABOARD;
                        one.gondola = bottom;
                        one.ridden = 0;
                        break;
                    }
                }
            }
            for (Party p : parties) {
                if (p.how == How.WAITS && ++p.waited >= p.patience()) {
                    p.how = How.GONE;
                }
            }
            step++;
            int was = bottom;
            bottom = (bottom + 1) % ballast.length;
            if (!balanced()) {
                bottom = was;
                return false;
            }
            Party come = in(bottom);
            if (come != null) {
                come.ridden = Math.min(99, come.ridden + 1);
            }
            return true;
        }

        boolean step() {
            return step(byNumbers(parties.size()));
        }

        int sticks(int n) {
            int stuck = 0;
            for (int i = 0; i < n; i++) {
                stuck += step() ? 0 : 1;
            }
            return stuck;
        }
    }

    static List<Integer> byNumbers(int n) {
        List<Integer> all = new ArrayList<>();
        for (int i = 0; i < n; i++) {
            all.add(i);
        }
        return all;
    }

    private final Map<Integer, Object> rows = new HashMap<>();
    private final StringBuilder tape = new StringBuilder();
    private State state;
    private final Deque<State> acts = new ArrayDeque<>();
    private final State[] images = new State[2];
    private final List<Integer> trace = new ArrayList<>();
    private int fault, status;

    private int found(int finding) {
        status = finding;
        return -1000010 - finding;
    }

    private int fine(int answer) {
        status = 0;
        return answer;
    }

    private static boolean in(int v, int least, int most) {
        return least <= v && v <= most;
    }

    private boolean isParty(int p) {
        return state != null && in(p, 0, state.parties.size() - 1);
    }

    private boolean isGondola(int g) {
        return state != null && in(g, 0, state.ballast.length - 1);
    }

    private static int length(Object row) {
        return java.lang.reflect.Array.getLength(row);
    }

    int row(int row, int lane, int n) {
        if (!in(row, 0, 7) || !in(lane, 0, 2) || n > 40) return BAD;
        if (n < 0) return found(4);
        rows.put(row, lane == 0 ? new byte[n] : lane == 1 ? new short[n] : new int[n]);
        return fine(n);
    }

    int set(int row, int i, int v) {
        if (!in(row, 0, 7)) return BAD;
        Object at = rows.get(row);
        if (at == null) return found(1);
        if (!in(i, 0, length(at) - 1)) return found(2);
        if (at instanceof byte[] b) return fine(b[i] = (byte) v);
        if (at instanceof short[] s) return fine(s[i] = (short) v);
        return fine(((int[]) at)[i] = v);
    }

    /** System.arraycopy is asked itself what it finds first. */
    int copy(int a, int i, int b, int j, int n) {
        if (!in(a, 0, 7) || !in(b, 0, 7)) return BAD;
        try {
            System.arraycopy(rows.get(a), i, rows.get(b), j, n);
        } catch (NullPointerException e) {
            return found(1);
        } catch (ArrayStoreException e) {
            return found(5);
        } catch (IndexOutOfBoundsException e) {
            return found(2);
        }
        return fine(n);
    }

    int drop(int row) {
        if (!in(row, 0, 7)) return BAD;
        Object was = rows.remove(row);
        return was == null ? found(1) : fine(length(was));
    }

    int feed(int letter) {
        if (!in(letter, 0, 255)) return BAD;
        if (tape.length() == 100) return FULL;
        tape.append((char) letter);
        return tape.length();
    }

    private record Token(String text, int at) {
    }

    private static List<Token> tokens(String text) {
        List<Token> found = new ArrayList<>();
        Matcher m = Pattern.compile("[0-9]+|.", Pattern.DOTALL).matcher(text);
        while (m.find()) {
            found.add(new Token(m.group(), m.start()));
        }
        found.add(new Token("", text.length()));
        return found;
    }

    private int faultAt(Token token, int number) {
        fault = number;
        return -1000100 - token.at;
    }

    int wheel() {
        List<Token> tokens = tokens(tape.toString());
        tape.setLength(0);
        List<Integer> numbers = new ArrayList<>();
        StringBuilder sorts = new StringBuilder();
        for (int i = 0; ; i++) {
            Token t = tokens.get(i);
            if (t.text.isEmpty() && i > 5 && i % 5 == 0) break;
            boolean law = i < 5;
            String shape = new String[] {law ? "w" : "[flgsc]", "[0-9]{1,2}", ",", "[0-9]{1,2}", ";"}[i % 5];
            if (!t.text.matches(shape)) return faultAt(t, 1);
            if (i % 5 == 0 && !law) {
                if (i == 35) return faultAt(t, 3);
                sorts.append(t.text);
            }
            if (i % 5 == 1 || i % 5 == 3) {
                int v = Integer.parseInt(t.text);
                int least = law && i == 1 ? 4 : 1;
                int most = law ? i == 1 ? 12 : 99 : i % 5 == 1 ? 9 : 4;
                if (!in(v, least, most)) return faultAt(t, 2);
                numbers.add(v);
            }
        }
        state = new State();
        state.ballast = new int[numbers.get(0)];
        state.limit = numbers.get(1);
        for (int p = 0; p < sorts.length(); p++) {
            Party one = ofKind("flgsc".indexOf(sorts.charAt(p)) + 1);
            one.number = p;
            one.weight = numbers.get(2 + 2 * p);
            one.rounds = numbers.get(3 + 2 * p);
            state.parties.add(one);
        }
        acts.clear();
        return sorts.length();
    }

    int fault() {
        return fault;
    }

    int undo() {
        if (acts.isEmpty()) return STATE;
        state = acts.pop();
        return acts.size();
    }

    private void act() {
        acts.push(state.twin());
        if (acts.size() > 24) acts.removeLast();
    }

    int steps(int n) {
        if (state == null) return STATE;
        if (!in(n, 1, 24)) return BAD;
        if (state.step + n > 999) return FULL;
        for (int i = 0; i < n; i++) {
            act();
            state.step();
        }
        return state.bits(How.OFF);
    }

    int turnTo(int g) {
        if (!isGondola(g)) return BAD;
        if (g == state.bottom) return STATE;
        act();
        int was = state.bottom;
        state.bottom = g;
        return was;
    }

    int ballast(int g, int v) {
        if (!isGondola(g) || !in(v, 0, 9)) return BAD;
        act();
        int was = state.ballast[g];
        state.ballast[g] = v;
        return was;
    }

    int limit(int v) {
        if (state == null) return STATE;
        if (!in(v, 1, 99)) return BAD;
        act();
        int was = state.limit;
        state.limit = v;
        return was;
    }

    int again(int p) {
        if (!isParty(p)) return BAD;
        if (state.parties.get(p).how.ordinal() < 2) return STATE;
        act();
        state.again(p);
        return state.bits(How.WAITS);
    }

    private static int gondolaOf(Party p) {
        return p.how == How.ABOARD ? p.gondola : NONE;
    }

    int party(int p, int what) {
        if (!isParty(p) || !in(what, 0, 5)) return BAD;
        Party one = state.parties.get(p);
        return new int[] {one.how.ordinal(), gondolaOf(one), one.weight, one.rounds, one.ridden, one.waited}[what];
    }

    int gondola(int g, int what) {
        if (!isGondola(g) || !in(what, 0, 3)) return BAD;
        int place = state.place(g);
        Party p = state.in(g);
        return new int[] {place, State.pull(place, state.ballast.length), state.ballast[g], p == null ? NONE : p.number}[what];
    }

    int stand(int what) {
        if (state == null) return STATE;
        if (!in(what, 0, 8)) return BAD;
        if (what >= 5) return state.bits(How.values()[what - 5]);
        return new int[] {state.ballast.length, state.bottom, state.limit, state.lean(), state.balanced() ? 1 : 0}[what];
    }

    private State behind(int n) {
        State s = state.twin();
        s.sticks(n);
        return s;
    }

    int ahead(int p, int n, int what) {
        if (!isParty(p) || !in(n, 0, 60) || !in(what, 0, 3)) return BAD;
        Party one = behind(n).parties.get(p);
        return new int[] {one.how.ordinal(), gondolaOf(one), one.ridden, one.waited}[what];
    }

    int leans(int n) {
        if (state == null) return STATE;
        return in(n, 0, 60) ? behind(n).lean() : BAD;
    }

    private static int least(int from, int to, IntPredicate so) {
        for (int i = from; i <= to; i++) {
            if (so.test(i)) return i;
        }
        return NONE;
    }

    int when(int p, int how) {
        if (!isParty(p) || !in(how, 1, 3)) return BAD;
        return least(0, 60, n -> behind(n).parties.get(p).how.ordinal() == how);
    }

    int first(int what) {
        if (state == null) return STATE;
        if (!in(what, 0, 1)) return BAD;
        if (what == 0) return least(1, 60, n -> state.twin().sticks(n) > 0);
        return least(0, 60, n -> (behind(n).bits(How.WAITS) | behind(n).bits(How.ABOARD)) == 0);
    }

    private static void orders(List<Integer> head, List<Integer> rest, List<List<Integer>> all) {
        if (rest.isEmpty()) all.add(new ArrayList<>(head));
        for (Integer next : rest) {
            List<Integer> others = new ArrayList<>(rest);
            others.remove(next);
            head.add(next);
            orders(head, others, all);
            head.remove(head.size() - 1);
        }
    }

    int order(int n, int k) {
        if (state == null) return STATE;
        if (!in(n, 1, 40) || k < -1) return BAD;
        List<List<Integer>> all = new ArrayList<>();
        orders(new ArrayList<>(), byNumbers(state.parties.size()), all);
        int best = -1;
        List<Integer> bestOrder = null;
        for (List<Integer> rank : all) {
            State s = state.twin();
            for (int i = 0; i < n; i++) {
                s.step(rank);
            }
            int worth = Integer.bitCount(s.bits(How.OFF)) * 10000 + s.ridden();
            if (worth > best) {
                best = worth;
                bestOrder = rank;
            }
        }
        if (k == -1) return best / 10000;
        return k < bestOrder.size() ? bestOrder.get(k) : NONE;
    }

    int load(int n, int what) {
        if (state == null) return STATE;
        if (!in(n, 1, 40) || !in(what, 0, 1)) return BAD;
        int best = NONE, least = Integer.MAX_VALUE;
        for (int load = 0; load < 10 * state.ballast.length; load++) {
            if (load % 10 == 0) continue;
            State s = state.twin();
            s.ballast[load / 10] = load % 10;
            int stuck = s.sticks(n);
            if (stuck < least) {
                least = stuck;
                best = load;
            }
        }
        return what == 0 ? best : least;
    }

    int bear(int n) {
        if (state == null) return STATE;
        if (!in(n, 1, 40)) return BAD;
        return least(1, 99, v -> {
            State s = state.twin();
            s.limit = v;
            return s.sticks(n) == 0;
        });
    }

    int sets(int v, int what) {
        if (state == null) return STATE;
        if (!in(v, 0, 54) || !in(what, 0, 2)) return BAD;
        int here = state.bits(How.WAITS) | state.bits(How.ABOARD);
        List<Integer> such = new ArrayList<>();
        for (int set = 0; set < 64; set++) {
            int bits = set;
            if ((set & here) == set && state.parties.stream().filter(p -> (bits >> p.number & 1) == 1).mapToInt(p -> p.weight).sum() == v) {
                such.add(set);
            }
        }
        if (what == 0) return such.size();
        if (such.isEmpty()) return 0;
        return what == 1 ? such.stream().reduce(63, (a, b) -> a & b) : such.stream().reduce(0, (a, b) -> a | b);
    }

    int share(int p, int n) {
        if (!isParty(p) || !in(n, 0, 999)) return BAD;
        List<Party> off = state.parties.stream().filter(q -> q.how == How.OFF && q.ridden > 0).toList();
        int all = off.stream().mapToInt(q -> q.ridden).sum();
        if (all == 0) return 0;
        Map<Integer, Integer> gets = new HashMap<>();
        int left = n;
        for (Party q : off) {
            gets.put(q.number, n * q.ridden / all);
            left -= n * q.ridden / all;
        }
        for (Party q : off) {
            if (left > 0) {
                gets.merge(q.number, 1, Integer::sum);
                left--;
            }
        }
        return gets.getOrDefault(p, 0);
    }

    private static int play(State s, boolean one, int n, int m) {
        if (n == 0) {
            State t = s.twin();
            t.sticks(m);
            return t.ridden();
        }
        State t = s.twin();
        if (one) {
            t.ballast[t.bottom] = Math.min(9, t.ballast[t.bottom] + 3);
        } else {
            t.bottom = (t.bottom + 1) % t.ballast.length;
        }
        int idle = play(s, !one, n - 1, m), done = play(t, !one, n - 1, m);
        return one ? Math.max(idle, done) : Math.min(idle, done);
    }

    int byTurns(int n, int m) {
        if (state == null) return STATE;
        if (!in(n, 0, 4) || !in(m, 1, 20)) return BAD;
        return play(state, true, n, m);
    }

    int who(int p, int which, int row, int i, int n) {
        if (!isParty(p) || !in(which, 0, 4) || !in(row, 0, 7) || !in(n, 1, 12)) return BAD;
        Object told = rows.get(row);
        if (told == null) return found(1);
        if (i < 0 || (long) i + n > length(told)) return found(2);
        List<Integer> fit = new ArrayList<>();
        for (int v = 1; v <= new int[] {5, 9, 4, 99, 99}[which]; v++) {
            State s = state.twin();
            suppose(s, p, which, v);
            int[] leans = new int[n];
            int[] due = new int[n];
            for (int k = 0; k < n; k++) {
                s.step();
                leans[k] = s.lean();
                due[k] = java.lang.reflect.Array.getInt(told, i + k);
            }
            if (Arrays.equals(leans, due)) fit.add(v);
        }
        if (which == 3) return fine(fit.size());
        if (which == 4) return fine(fit.isEmpty() ? NONE : fit.get(0));
        return fine(fit.stream().mapToInt(v -> 1 << v).sum());
    }

    private static void suppose(State s, int p, int which, int v) {
        Party was = s.parties.get(p);
        if (which == 0) {
            Party is = ofKind(v);
            is.number = was.number;
            is.weight = was.weight;
            is.rounds = was.rounds;
            is.gondola = was.gondola;
            is.ridden = was.ridden;
            is.waited = was.waited;
            is.how = was.how;
            s.parties.set(p, is);
        } else if (which == 1) {
            was.weight = v;
        } else if (which == 2) {
            was.rounds = v;
        } else {
            s.limit = v;
        }
    }

    private BigInteger goodCases(State s, int from, int n, int p) {
        int next = from;
        while (next < s.parties.size() && s.parties.get(next).how != How.WAITS) {
            next++;
        }
        if (next >= s.parties.size()) {
            return s.twin().sticks(n) == 0 ? BigInteger.ONE : BigInteger.ZERO;
        }
        State without = s.twin();
        without.parties.get(next).how = How.GONE;
        return goodCases(without, next + 1, n, p).multiply(BigInteger.valueOf(p))
            .add(goodCases(s, next + 1, n, p).multiply(BigInteger.valueOf(10 - p)));
    }

    long away(int n, int p, int what) {
        if (state == null) return STATE;
        if (!in(n, 0, 40) || !in(p, 0, 10) || !in(what, 0, 1)) return BAD;
        BigInteger good = goodCases(state, 0, n, p);
        BigInteger all = BigInteger.TEN.pow(Integer.bitCount(state.bits(How.WAITS)));
        BigInteger common = good.gcd(all);
        return (what == 0 ? good : all).divide(common).longValueExact();
    }

    int drawn(int n, int seed, int what) {
        if (state == null) return STATE;
        if (!in(n, 0, 60) || !in(seed, 1, 999999) || !in(what, 0, 1)) return BAD;
        State s = state.twin();
        BigInteger x = BigInteger.valueOf(seed);
        int stuck = 0;
        for (int i = 0; i < n; i++) {
            x = x.multiply(BigInteger.valueOf(16807)).mod(BigInteger.valueOf(2147483647));
            int drawn = x.intValueExact();
            Party p = s.parties.get(drawn % s.parties.size());
            if (p.how == How.OFF || p.how == How.GONE) {
                s.again(p.number);
            } else if (drawn % 4 == 0) {
                s.ballast[drawn % s.ballast.length] = drawn % 10;
            }
            stuck += s.step() ? 0 : 1;
        }
        return what == 0 ? stuck : s.ridden();
    }

    int image(int k) {
        if (!in(k, 0, 1)) return BAD;
        if (state == null) return STATE;
        images[k] = state.twin();
        return 1;
    }

    int restore(int k) {
        if (!in(k, 0, 1)) return BAD;
        if (images[k] == null) return STATE;
        state = images[k].twin();
        acts.clear();
        return 1;
    }

    int kind(int one) {
        return isParty(one) ? state.parties.get(one).kind() : BAD;
    }

    int as(int one, int kind) {
        if (!isParty(one) || !in(kind, 0, 5)) return BAD;
        Class<?> asked = List.of(Party.class, Family.class, Lovers.class, Giddy.class, Solitary.class, Critic.class).get(kind);
        return asked.isInstance(state.parties.get(one)) ? fine(one) : found(3);
    }

    int ask(int one, int what) {
        if (!isParty(one) || !in(what, 0, 1)) return BAD;
        trace.clear();
        Party p = state.parties.get(one);
        return what == 0 ? p.size(trace) : p.mark(trace);
    }

    int trace(int i) {
        return in(i, 0, Math.min(16, trace.size()) - 1) ? trace.get(i) : NONE;
    }

    int count(int what) {
        switch (what) {
            case 0: return rows.size();
            case 1: return state == null ? 0 : state.parties.size();
            case 2: return state == null ? 0 : state.ballast.length;
            case 3: return state == null ? 0 : state.step;
            case 4: return state == null ? 0 : Arrays.stream(state.ballast).sum();
            case 5: return state == null ? 0 : state.ridden();
            case 6: return acts.size();
            case 7: return tape.length();
            default: return BAD;
        }
    }

    int status() {
        return status;
    }
}
