import java.util.ArrayList;
import java.util.Arrays;
import java.util.HashMap;
import java.util.List;
import java.util.Map;
import java.util.Random;

/** Long runs of drawn calls, each compared with a second program of the document, plain and slow. */
public final class ModelTest {
    private static final int NONE = -1000000, BAD = -1000001, STATE = -1000002, FULL = -1000003;
    private static final int RUNS = 4000, CALLS = 512;

    /** One wisher of a kind, at one time. */
    private record One(char sort, int home, int aim, int strength, int from, int span, int tired, boolean rests) {
        One tiredBy(int much) {
            return new One(sort, home, aim, strength, from, span, sort == 'w' ? 0 : much, rests);
        }

        One resting(boolean on) {
            return new One(sort, home, aim, strength, from, span, tired, on);
        }

        One wishing(int place, int hard) {
            return new One(sort, home, place, hard, from, span, tired, rests);
        }

        One being(char another) {
            return new One(another, home, aim, strength, from, span, another == 'w' ? 0 : tired, rests);
        }

        boolean wishesIn(int hour) {
            for (int k = 0; k < span && !rests; k++) {
                if ((from + k) % 6 == hour % 6) {
                    return true;
                }
            }
            return false;
        }
    }

    /** A land at one time; never changed, only followed by another. */
    private record Scene(int places, int hold, int tires, List<Integer> roads, int hour, int hue, int went, int halved,
                         int milk, List<One> ones) {
        int far(int a, int b) {
            int[] far = new int[places];
            Arrays.fill(far, 9);
            List<Integer> front = new ArrayList<>(List.of(a));
            for (int ways = 0; !front.isEmpty(); ways++) {
                List<Integer> next = new ArrayList<>();
                for (int p : front) {
                    if (far[p] == 9) {
                        far[p] = ways;
                        for (int q = 0; q < places; q++) {
                            if (roads.contains(10 * p + q) || roads.contains(10 * q + p)) {
                                next.add(q);
                            }
                        }
                    }
                }
                front = next;
            }
            return far[b];
        }

        int wish(One one) {
            int less = one.strength - one.tired;
            int grown = Math.max(less - far(one.home, one.aim), 0);
            return switch (one.sort) {
                case 'a', 'w' -> grown;
                case 't' -> hour % 6 == 4 || hour % 6 == 5 ? grown + grown : 0;
                case 'k' -> Math.max(less, 0);
                default -> Math.max(less, 0) + 2 * one.span - 2;
            };
        }

        int pull(int place, int morePlace, int more) {
            int pull = place == morePlace ? more : 0;
            for (One one : ones) {
                if (one.aim == place && one.wishesIn(hour)) {
                    pull += wish(one);
                }
            }
            return pull - 2 * far(hue, place) + (place == hue ? hold : 0);
        }

        /** Where the hue is behind the HOUR; -1, if it is HALVED. */
        int next(int morePlace, int more) {
            List<Integer> best = new ArrayList<>();
            int greatest = Integer.MIN_VALUE;
            for (int p = 0; p < places; p++) {
                int pull = pull(p, morePlace, more);
                if (pull > greatest) {
                    best.clear();
                    greatest = pull;
                }
                if (pull == greatest) {
                    best.add(p);
                }
            }
            if (best.contains(hue)) {
                return hue;
            }
            return best.size() == 1 ? best.get(0) : -1;
        }

        Scene with(int newHue, List<One> newOnes) {
            return new Scene(places, hold, tires, roads, hour, newHue, went, halved, milk, newOnes);
        }

        Scene with(int which, One one) {
            List<One> others = new ArrayList<>(ones);
            others.set(which, one);
            return with(hue, others);
        }

        Scene onlyAwake(int bits) {
            List<One> others = new ArrayList<>();
            for (int w = 0; w < ones.size(); w++) {
                others.add((bits >> w & 1) == 1 ? ones.get(w) : ones.get(w).resting(true));
            }
            return with(hue, others);
        }

        Scene after() {
            int to = next(-1, 0);
            List<One> others = new ArrayList<>();
            for (One one : ones) {
                others.add(one.tiredBy(one.wishesIn(hour) ? Math.min(20, one.tired + tires) : Math.max(0, one.tired - 1)));
            }
            boolean goes = to >= 0 && to != hue;
            int newMilk = goes ? (milk | 1 << hue) & (63 ^ 1 << to) : milk;
            return new Scene(places, hold, tires, roads, hour + 1, goes ? to : hue, went + (goes ? 1 : 0),
                    halved + (to < 0 ? 1 : 0), newMilk, others);
        }

        Scene after(int n) {
            Scene scene = this;
            for (int k = 0; k < n; k++) {
                scene = scene.after();
            }
            return scene;
        }

        List<Integer> sameness() {
            List<Integer> all = new ArrayList<>(List.of(hue, hour % 6));
            for (One one : ones) {
                all.add(one.tired);
            }
            return all;
        }
    }

    /** A text that is read by tokens made ahead. */
    private static final class Text {
        final List<String> tokens = new ArrayList<>();
        final List<Integer> starts = new ArrayList<>();
        int at = 0;
        int fault = 0;
        int place = 0;
        Scene scene;

        Text(String tape) {
            int i = 0;
            while (i < tape.length()) {
                int end = i + 1;
                if (Character.isDigit(tape.charAt(i)) && tape.charAt(i) < 128) {
                    while (end < tape.length() && tape.charAt(end) >= '0' && tape.charAt(end) <= '9') {
                        end++;
                    }
                }
                tokens.add(tape.substring(i, end));
                starts.add(i);
                i = end;
            }
            tokens.add("");
            starts.add(tape.length());
            read();
        }

        boolean is(String token) {
            return tokens.get(at).equals(token);
        }

        boolean fail(int number) {
            fault = number;
            place = starts.get(at);
            return false;
        }

        boolean sign(String token) {
            if (!is(token)) {
                return fail(1);
            }
            at++;
            return true;
        }

        int number(int low, int high, List<Integer> not) {
            String token = tokens.get(at);
            if (!token.matches("[0-9]{1,2}")) {
                fail(1);
                return -1;
            }
            int value = Integer.parseInt(token);
            if (value < low || value > high || not.contains(value)) {
                fail(2);
                return -1;
            }
            at++;
            return value;
        }

        /** Numbers between low and high, each followed by its sign; null, if there is a fault. */
        int[] numbers(int... bounds) {
            int many = bounds.length / 2;
            int[] values = new int[many];
            for (int k = 0; k < many; k++) {
                values[k] = number(bounds[2 * k], bounds[2 * k + 1], List.of());
                if (values[k] < 0 || !sign(k == many - 1 ? ";" : ",")) {
                    return null;
                }
            }
            return values;
        }

        void read() {
            if (!sign("c")) {
                return;
            }
            int places = number(2, 6, List.of());
            if (places < 0 || !sign(",")) {
                return;
            }
            int[] law = numbers(0, places - 1, 0, 20, 0, 5);
            if (law == null) {
                return;
            }
            List<Integer> roads = new ArrayList<>();
            while (is("r")) {
                if (!readRoad(places, roads)) {
                    return;
                }
            }
            List<One> ones = new ArrayList<>();
            while (!is("")) {
                if (!readOne(places, ones)) {
                    return;
                }
            }
            scene = new Scene(places, law[1], law[2], roads, 0, law[0], 0, 0, 0, ones);
        }

        boolean readRoad(int places, List<Integer> roads) {
            if (roads.size() == 10) {
                return fail(3);
            }
            at++;
            int a = number(0, places - 1, List.of());
            if (a < 0 || !sign(",")) {
                return false;
            }
            List<Integer> not = new ArrayList<>(List.of(a));
            for (int q = 0; q < 6; q++) {
                if (roads.contains(10 * a + q) || roads.contains(10 * q + a)) {
                    not.add(q);
                }
            }
            int b = number(0, places - 1, not);
            roads.add(10 * a + b);
            return b >= 0 && sign(";");
        }

        boolean readOne(int places, List<One> ones) {
            if (!tokens.get(at).matches("[awtkb]")) {
                return fail(1);
            }
            if (ones.size() == 6) {
                return fail(3);
            }
            char sort = tokens.get(at).charAt(0);
            at++;
            int[] v = numbers(0, places - 1, 0, places - 1, 0, 40, 0, 5, 1, 6);
            if (v == null) {
                return false;
            }
            ones.add(new One(sort, v[0], v[1], v[2], v[3], v[4], 0, false));
            return true;
        }
    }

    /** The ASKS, by classes, as Java itself finds the body. */
    private static class Wisher {
        final int number;
        final One one;
        final List<Integer> trace;

        Wisher(int number, One one, List<Integer> trace) {
            this.number = number;
            this.one = one;
            this.trace = trace;
        }

        int size() {
            trace.add(10);
            return one.strength();
        }

        int mark() {
            trace.add(20);
            return number;
        }
    }

    private static class Grown extends Wisher {
        Grown(int number, One one, List<Integer> trace) {
            super(number, one, trace);
        }

        @Override int size() {
            trace.add(11);
            return super.size() + mark();
        }

        @Override int mark() {
            trace.add(21);
            return super.mark() + one.tired();
        }
    }

    private static final class Widow extends Grown {
        Widow(int number, One one, List<Integer> trace) {
            super(number, one, trace);
        }

        @Override int size() {
            trace.add(12);
            return 0 - super.size();
        }

        @Override int mark() {
            trace.add(24);
            return 2 * super.mark();
        }
    }

    private static final class Thief extends Grown {
        Thief(int number, One one, List<Integer> trace) {
            super(number, one, trace);
        }

        @Override int mark() {
            trace.add(22);
            return super.mark() - 1000;
        }
    }

    private static class Child extends Wisher {
        Child(int number, One one, List<Integer> trace) {
            super(number, one, trace);
        }

        @Override int size() {
            trace.add(13);
            return super.size() - 100;
        }

        @Override int mark() {
            trace.add(23);
            return super.mark() - size();
        }
    }

    private static final class Bureau extends Child {
        Bureau(int number, One one, List<Integer> trace) {
            super(number, one, trace);
        }

        @Override int size() {
            trace.add(14);
            return 2 * super.size();
        }
    }

    /** The whole object of the document. */
    private static final class Model {
        static final String SORTS = "_awtkb";

        final List<List<Integer>> rows = new ArrayList<>();
        final int[] lanes = new int[8];
        final StringBuilder tape = new StringBuilder();
        final List<Scene> past = new ArrayList<>();
        final Scene[] images = new Scene[2];
        List<Integer> trace = new ArrayList<>();
        Scene now;
        int fault = 0;
        int status = 0;

        Model() {
            for (int r = 0; r < 8; r++) {
                rows.add(null);
            }
        }

        boolean place(int p) {
            return now != null && p >= 0 && p < now.places();
        }

        boolean one(int w) {
            return now != null && w >= 0 && w < now.ones().size();
        }

        static boolean in(int n, int low, int high) {
            return low <= n && n <= high;
        }

        int finding(int number) {
            status = number;
            return -1000010 - number;
        }

        int good(int answer) {
            status = 0;
            return answer;
        }

        void act(Scene next) {
            past.add(now);
            if (past.size() > 24) {
                past.remove(0);
            }
            now = next;
        }

        int row(int r, int lane, int n) {
            if (!in(r, 0, 7) || !in(lane, 0, 2) || n > 40) {
                return BAD;
            }
            if (n < 0) {
                return finding(4);
            }
            rows.set(r, new ArrayList<>());
            for (int k = 0; k < n; k++) {
                rows.get(r).add(0);
            }
            lanes[r] = lane;
            return good(n);
        }

        int set(int r, int i, int v) {
            if (!in(r, 0, 7)) {
                return BAD;
            }
            if (rows.get(r) == null) {
                return finding(1);
            }
            if (!in(i, 0, rows.get(r).size() - 1)) {
                return finding(2);
            }
            int shift = lanes[r] == 0 ? 24 : lanes[r] == 1 ? 16 : 0;
            rows.get(r).set(i, v << shift >> shift);
            return good(v << shift >> shift);
        }

        int copy(int a, int i, int b, int j, int n) {
            if (!in(a, 0, 7) || !in(b, 0, 7)) {
                return BAD;
            }
            if (rows.get(a) == null || rows.get(b) == null) {
                return finding(1);
            }
            if (lanes[a] != lanes[b]) {
                return finding(5);
            }
            if (i < 0 || j < 0 || n < 0 || (long) i + n > rows.get(a).size() || (long) j + n > rows.get(b).size()) {
                return finding(2);
            }
            List<Integer> ahead = new ArrayList<>(rows.get(a));
            for (int k = 0; k < n; k++) {
                rows.get(b).set(j + k, ahead.get(i + k));
            }
            return good(n);
        }

        int drop(int r) {
            if (!in(r, 0, 7)) {
                return BAD;
            }
            if (rows.get(r) == null) {
                return finding(1);
            }
            return good(rows.set(r, null).size());
        }

        int feed(int letter) {
            if (!in(letter, 0, 255)) {
                return BAD;
            }
            if (tape.length() == 120) {
                return FULL;
            }
            return tape.append((char) letter).length();
        }

        int land() {
            Text text = new Text(tape.toString());
            tape.setLength(0);
            if (text.fault != 0) {
                fault = text.fault;
                return -1000100 - text.place;
            }
            now = text.scene;
            past.clear();
            return now.ones().size();
        }

        int undo() {
            if (past.isEmpty()) {
                return STATE;
            }
            now = past.remove(past.size() - 1);
            return past.size();
        }

        int hours(int n) {
            if (now == null) {
                return STATE;
            }
            if (!in(n, 1, 24)) {
                return BAD;
            }
            if (now.hour() + n > 999) {
                return FULL;
            }
            for (int k = 0; k < n; k++) {
                act(now.after());
            }
            return now.hue();
        }

        int wish(int w, int p, int strength) {
            if (!one(w) || !place(p) || !in(strength, 0, 40)) {
                return BAD;
            }
            One one = now.ones().get(w);
            act(now.with(w, one.wishing(p, strength)));
            return 100 * one.aim() + one.strength();
        }

        int rest(int w, int on) {
            if (!one(w) || !in(on, 0, 1)) {
                return BAD;
            }
            One one = now.ones().get(w);
            if (one.rests() == (on == 1)) {
                return STATE;
            }
            act(now.with(w, one.resting(on == 1)));
            return (int) now.ones().stream().filter(One::rests).count();
        }

        int wisher(int w, int what) {
            if (!one(w) || !in(what, 0, 5)) {
                return BAD;
            }
            One one = now.ones().get(w);
            int wish = one.wishesIn(now.hour()) ? now.wish(one) : 0;
            return new int[] {one.home(), one.aim(), one.strength(), one.tired(), one.rests() ? 1 : 0, wish}[what];
        }

        int place(int p, int what) {
            if (now == null) {
                return STATE;
            }
            if (!place(p) || !in(what, 0, 2)) {
                return BAD;
            }
            int roads = 0;
            for (int q = 0; q < now.places(); q++) {
                roads |= now.far(p, q) == 1 ? 1 << q : 0;
            }
            return new int[] {now.pull(p, -1, 0), now.milk() >> p & 1, roads}[what];
        }

        int far(int a, int b) {
            return now == null ? STATE : place(a) && place(b) ? now.far(a, b) : BAD;
        }

        int ahead(int n, int what) {
            if (now == null) {
                return STATE;
            }
            if (!in(n, 0, 60) || !in(what, 0, 1)) {
                return BAD;
            }
            Scene then = now.after(n);
            return what == 0 ? then.hue() : then.went();
        }

        int comes(int p, int n) {
            if (now == null) {
                return STATE;
            }
            if (!place(p) || !in(n, 1, 60)) {
                return BAD;
            }
            Scene scene = now;
            for (int k = 0; k <= n; k++, scene = scene.after()) {
                if (scene.hue() == p) {
                    return k;
                }
            }
            return NONE;
        }

        int visits(int n) {
            if (now == null) {
                return STATE;
            }
            if (!in(n, 0, 60)) {
                return BAD;
            }
            int bits = 0;
            Scene scene = now;
            for (int k = 0; k <= n; k++, scene = scene.after()) {
                bits |= 1 << scene.hue();
            }
            return bits;
        }

        int fewest(int p, int n, int what) {
            if (now == null) {
                return STATE;
            }
            if (!place(p) || !in(n, 1, 24) || !in(what, 0, 1)) {
                return BAD;
            }
            for (int many = 0; many <= 6; many++) {
                for (int bits = 0; bits < 1 << now.ones().size(); bits++) {
                    if (Integer.bitCount(bits) == many && now.onlyAwake(bits).after(n).hue() == p) {
                        return what == 0 ? many : bits;
                    }
                }
            }
            return NONE;
        }

        int hard(int w, int n) {
            if (!one(w) || !in(n, 1, 24)) {
                return BAD;
            }
            One one = now.ones().get(w);
            for (int s = 0; s <= 40; s++) {
                if (now.with(w, one.wishing(one.aim(), s)).after(n).hue() == one.aim()) {
                    return s;
                }
            }
            return NONE;
        }

        int stolen(int p, int s, int n) {
            if (now == null) {
                return STATE;
            }
            if (!place(p) || !in(s, 0, 60) || !in(n, 1, 24)) {
                return BAD;
            }
            int bits = 0;
            for (int k = 0; k < n; k++) {
                Scene scene = now.after(k);
                int to = scene.next(p, s);
                bits |= (to < 0 ? scene.hue() : to) == p ? 1 << k : 0;
            }
            return bits;
        }

        boolean comesSo(Scene start, int r, int i, int n) {
            Scene scene = start;
            for (int k = 0; k < n; k++) {
                scene = scene.after();
                int told = rows.get(r).get(i + k);
                if (told != -1 && told != scene.hue()) {
                    return false;
                }
            }
            return true;
        }

        int seen(int r, int i, int n, int what) {
            if (now == null) {
                return STATE;
            }
            if (!in(r, 0, 7) || !in(n, 1, 12) || !in(what, 0, 1)) {
                return BAD;
            }
            if (rows.get(r) == null) {
                return finding(1);
            }
            if (i < 0 || (long) i + n > rows.get(r).size()) {
                return finding(2);
            }
            List<Integer> at = new ArrayList<>();
            for (int p = 0; p < now.places(); p++) {
                if (comesSo(now.with(p, now.ones()), r, i, n)) {
                    at.add(p);
                }
            }
            return good(what == 0 ? at.size() : at.isEmpty() ? NONE : at.get(0));
        }

        int who(int w, int r, int i, int n) {
            if (!one(w) || !in(r, 0, 7) || !in(n, 1, 12)) {
                return BAD;
            }
            if (rows.get(r) == null) {
                return finding(1);
            }
            if (i < 0 || (long) i + n > rows.get(r).size()) {
                return finding(2);
            }
            int bits = 0;
            for (int k = 1; k <= 5; k++) {
                if (comesSo(now.with(w, now.ones().get(w).being(SORTS.charAt(k))), r, i, n)) {
                    bits |= 1 << k;
                }
            }
            return good(bits);
        }

        int round(int what) {
            if (now == null) {
                return STATE;
            }
            if (!in(what, 0, 1)) {
                return BAD;
            }
            Map<List<Integer>, Integer> met = new HashMap<>();
            Scene scene = now;
            for (int k = 0; k <= 100; k++, scene = scene.after()) {
                Integer before = met.putIfAbsent(scene.sameness(), k);
                if (before != null) {
                    return what == 0 ? k : before;
                }
            }
            return NONE;
        }

        int half(int n) {
            if (now == null) {
                return STATE;
            }
            if (!in(n, 1, 60)) {
                return BAD;
            }
            Scene scene = now;
            for (int k = 0; k < n; k++, scene = scene.after()) {
                if (scene.next(-1, 0) < 0) {
                    return k;
                }
            }
            return NONE;
        }

        long awake(int p, int what) {
            if (now == null) {
                return STATE;
            }
            if (!in(p, 0, 10) || !in(what, 0, 1)) {
                return BAD;
            }
            // Over all, those who would not wish too: they only widen both numbers alike.
            long above = 0;
            long below = 1;
            int many = now.ones().size();
            for (int w = 0; w < many; w++) {
                below *= 10;
            }
            for (int bits = 0; bits < 1 << many; bits++) {
                long cases = 1;
                for (int w = 0; w < many; w++) {
                    cases *= (bits >> w & 1) == 1 ? p : 10 - p;
                }
                int to = now.onlyAwake(bits).next(-1, 0);
                above += to >= 0 && to != now.hue() ? cases : 0;
            }
            for (int by = 2; by <= 5; by += 3) {
                while (above != 0 && above % by == 0 && below % by == 0) {
                    above /= by;
                    below /= by;
                }
            }
            return above == 0 ? what : what == 0 ? above : below;
        }

        int drawn(int n, int seed, int what) {
            if (now == null) {
                return STATE;
            }
            if (!in(n, 0, 60) || !in(seed, 1, 999999) || !in(what, 0, 1)) {
                return BAD;
            }
            Scene scene = now;
            long x = seed;
            for (int k = 0; k < n; k++) {
                x = x * 16807 % 2147483647;
                int many = scene.ones().size();
                if (many > 0) {
                    int w = (int) (x % many);
                    One one = scene.ones().get(w);
                    scene = scene.with(w, one.wishing((int) (x % scene.places()), one.strength()));
                }
                scene = scene.after();
            }
            return what == 0 ? scene.hue() : scene.went() - now.went();
        }

        int image(int k) {
            if (!in(k, 0, 1)) {
                return BAD;
            }
            if (now == null) {
                return STATE;
            }
            images[k] = now;
            return 1;
        }

        int restore(int k) {
            if (!in(k, 0, 1)) {
                return BAD;
            }
            if (images[k] == null) {
                return STATE;
            }
            now = images[k];
            past.clear();
            return 1;
        }

        Wisher asked(int w, List<Integer> to) {
            One one = now.ones().get(w);
            return switch (one.sort()) {
                case 'a' -> new Grown(w, one, to);
                case 'w' -> new Widow(w, one, to);
                case 't' -> new Thief(w, one, to);
                case 'k' -> new Child(w, one, to);
                default -> new Bureau(w, one, to);
            };
        }

        int kind(int w) {
            return one(w) ? SORTS.indexOf(now.ones().get(w).sort()) : BAD;
        }

        int as(int w, int kind) {
            if (!one(w) || !in(kind, 0, 5)) {
                return BAD;
            }
            Wisher wisher = asked(w, new ArrayList<>());
            Class<?>[] kinds = {Wisher.class, Grown.class, Widow.class, Thief.class, Child.class, Bureau.class};
            return kinds[kind].isInstance(wisher) ? good(w) : finding(3);
        }

        int ask(int w, int what) {
            if (!one(w) || !in(what, 0, 1)) {
                return BAD;
            }
            trace = new ArrayList<>();
            Wisher wisher = asked(w, trace);
            return what == 0 ? wisher.size() : wisher.mark();
        }

        int trace(int i) {
            return in(i, 0, trace.size() - 1) ? trace.get(i) : NONE;
        }

        int count(int what) {
            switch (what) {
                case 0: return 8 - java.util.Collections.frequency(rows, null);
                case 5: return now == null ? -1 : now.hue();
                case 8: return past.size();
                case 9: return tape.length();
                default: break;
            }
            if (!in(what, 0, 9)) {
                return BAD;
            }
            if (now == null) {
                return 0;
            }
            return new int[] {0, now.places(), now.roads().size(), now.ones().size(), now.hour(), 0, now.went(),
                now.halved()}[what];
        }
    }

    /** One object and its model, called alike. */
    private static final class Run {
        final BlueHue x = new BlueHue();
        final Model m = new Model();
        final Random draw;
        final int run;
        final List<String> calls = new ArrayList<>();
        int wrong = 0;

        Run(int run) {
            this.run = run;
            draw = new Random(run);
        }

        int below(int n) {
            return draw.nextInt(n);
        }

        /** Mostly a number from low to high, now and then one just beside, or far off. */
        int about(int low, int high) {
            int odd = below(40);
            if (odd == 0) {
                int[] far = {-1, low - 1, high + 1, Integer.MAX_VALUE, Integer.MIN_VALUE, high, low};
                return far[below(far.length)];
            }
            return low + below(high - low + 1);
        }

        void due(String call, long got, long want) {
            calls.add(call + " = " + got);
            if (got != want && wrong++ == 0) {
                System.out.println("run " + run + ": " + call + " answered " + got + ", the model has " + want);
                System.out.println("  behind " + calls.subList(Math.max(0, calls.size() - 20), calls.size()));
            }
        }

        void feed(String text) {
            for (int i = 0; i < text.length() && calls.size() < CALLS; i++) {
                due("feed(" + (int) text.charAt(i) + ")", x.feed(text.charAt(i)), m.feed(text.charAt(i)));
            }
        }

        String text() {
            int places = 2 + below(5);
            StringBuilder text = new StringBuilder();
            text.append("c" + places + "," + below(places) + "," + below(below(2) == 0 ? 21 : 4) + "," + below(6) + ";");
            int roads = below(8);
            List<Integer> pairs = new ArrayList<>();
            for (int k = 0; k < roads; k++) {
                int a = below(places);
                int b = below(places);
                if (a != b && !pairs.contains(10 * a + b) && !pairs.contains(10 * b + a)) {
                    pairs.add(10 * a + b);
                    text.append("r" + a + "," + b + ";");
                }
            }
            int ones = below(7);
            int strong = 1 + below(41);
            for (int k = 0; k < ones && text.length() < 108; k++) {
                text.append("awtkb".charAt(below(5)));
                text.append(below(places) + "," + below(places) + "," + below(strong) + "," + below(6) + "," + (1 + below(6)) + ";");
            }
            return text.toString();
        }

        String spoilt(String text) {
            StringBuilder spoilt = new StringBuilder(text);
            String letters = "crawtkbz0123456789,;;,, A" + (char) 233;
            int at = below(spoilt.length());
            char letter = letters.charAt(below(letters.length()));
            switch (below(4)) {
                case 0: spoilt.setCharAt(at, letter); break;
                case 1: spoilt.insert(at, letter); break;
                case 2: spoilt.deleteCharAt(at); break;
                default: spoilt.setLength(at); break;
            }
            return spoilt.toString();
        }

        void newLand() {
            String text = text();
            feed(below(3) == 0 ? spoilt(text) : text);
            due("land() of " + text, x.land(), m.land());
            due("fault()", x.fault(), m.fault);
        }

        void rowCall() {
            int a = about(0, 7);
            int b = below(3) == 0 ? a : about(0, 7);
            int i = below(2) == 0 ? 0 : about(0, 13);
            int n = about(1, 13);
            switch (below(6)) {
                case 0: {
                    int lane = about(0, 2);
                    due("row(" + a + "," + lane + "," + n + ")", x.row(a, lane, n), m.row(a, lane, n));
                    break;
                }
                case 1: case 2: {
                    int v = below(8) == 0 ? draw.nextInt() : about(-1, 5);
                    due("set(" + a + "," + i + "," + v + ")", x.set(a, i, v), m.set(a, i, v));
                    break;
                }
                case 3: {
                    int j = about(0, 3);
                    due("copy(" + a + "," + i + "," + b + "," + j + "," + n + ")", x.copy(a, i, b, j, n), m.copy(a, i, b, j, n));
                    break;
                }
                case 4: {
                    due("drop(" + a + ")", x.drop(a), m.drop(a));
                    break;
                }
                default: {
                    tellOfHue(a);
                    break;
                }
            }
            due("status()", x.status(), m.status);
        }

        /** A row that tells where the hue will be, with an ITEM here and there unknown or wrong. */
        void tellOfHue(int row) {
            int lane = below(3);
            due("row(" + row + "," + lane + ",12)", x.row(row, lane, 12), m.row(row, lane, 12));
            for (int k = 0; k < 12; k++) {
                int v = below(6) == 0 ? -1 : below(30) == 0 ? about(-2, 7) : Math.max(-1, m.ahead(k + 1, 0));
                due("set(" + row + "," + k + "," + v + ")", x.set(row, k, v), m.set(row, k, v));
            }
        }

        void act() {
            int w = about(0, 5);
            switch (below(7)) {
                case 0: case 1: case 2: {
                    int n = below(3) == 0 ? about(1, 24) : about(1, 3);
                    due("hours(" + n + ")", x.hours(n), m.hours(n));
                    break;
                }
                case 3: {
                    int p = about(0, 5);
                    int s = about(0, 40);
                    due("wish(" + w + "," + p + "," + s + ")", x.wish(w, p, s), m.wish(w, p, s));
                    break;
                }
                case 4: {
                    int on = about(0, 1);
                    due("rest(" + w + "," + on + ")", x.rest(w, on), m.rest(w, on));
                    break;
                }
                case 5: {
                    due("undo()", x.undo(), m.undo());
                    break;
                }
                default: {
                    int k = about(0, 1);
                    boolean keep = below(2) == 0;
                    due("image or restore(" + k + ")", keep ? x.image(k) : x.restore(k), keep ? m.image(k) : m.restore(k));
                    break;
                }
            }
        }

        void look() {
            int w = about(0, 5);
            int p = about(0, 5);
            int what = about(0, 9);
            due("wisher(" + w + "," + what + ")", x.wisher(w, what), m.wisher(w, what));
            due("place(" + p + "," + what % 3 + ")", x.place(p, what % 3), m.place(p, what % 3));
            due("place(" + p + "," + what + ")", x.place(p, what), m.place(p, what));
            due("far(" + p + "," + w + ")", x.far(p, w), m.far(p, w));
            due("count(" + what + ")", x.count(what), m.count(what));
            due("kind(" + w + ")", x.kind(w), m.kind(w));
            due("as(" + w + "," + p + ")", x.as(w, p), m.as(w, p));
            due("status()", x.status(), m.status);
            int which = about(0, 1);
            due("ask(" + w + "," + which + ")", x.ask(w, which), m.ask(w, which));
            for (int i = -1; i < 7; i++) {
                due("trace(" + i + ")", x.trace(i), m.trace(i));
            }
        }

        void foretell() {
            int w = about(0, 5);
            int p = about(0, 5);
            int what = about(0, 1);
            int some = below(3) == 0 ? about(1, 60) : about(1, 8);
            int few = below(3) == 0 ? about(1, 24) : about(1, 4);
            due("ahead(" + some + "," + what + ")", x.ahead(some, what), m.ahead(some, what));
            due("comes(" + p + "," + some + ")", x.comes(p, some), m.comes(p, some));
            due("visits(" + some + ")", x.visits(some), m.visits(some));
            if (below(4) == 0) {
                due("fewest(" + p + "," + few + "," + what + ")", x.fewest(p, few, what), m.fewest(p, few, what));
                due("hard(" + w + "," + few + ")", x.hard(w, few), m.hard(w, few));
                due("round(" + what + ")", x.round(what), m.round(what));
            }
            int s = about(0, 60);
            due("stolen(" + p + "," + s + "," + few + ")", x.stolen(p, s, few), m.stolen(p, s, few));
            due("half(" + some + ")", x.half(some), m.half(some));
            int odds = about(0, 10);
            due("awake(" + odds + "," + what + ")", x.awake(odds, what), m.awake(odds, what));
            int seed = about(1, 999999);
            due("drawn(" + some + "," + seed + "," + what + ")", x.drawn(some, seed, what), m.drawn(some, seed, what));
        }

        void tellBack() {
            int row = about(0, 7);
            if (below(2) == 0) {
                tellOfHue(row);
            }
            int i = about(0, 3);
            int n = about(1, 12 - Math.max(0, Math.min(i, 3)));
            int w = about(0, 5);
            int what = about(0, 1);
            due("seen(" + row + "," + i + "," + n + "," + what + ")", x.seen(row, i, n, what), m.seen(row, i, n, what));
            due("status()", x.status(), m.status);
            due("who(" + w + "," + row + "," + i + "," + n + ")", x.who(w, row, i, n), m.who(w, row, i, n));
            due("status()", x.status(), m.status);
        }

        int play() {
            while (calls.size() < CALLS && wrong == 0) {
                int kind = below(20);
                if (kind == 0 || m.now == null && below(2) == 0) {
                    newLand();
                } else if (kind < 4) {
                    rowCall();
                } else if (kind < 10) {
                    act();
                } else if (kind < 13) {
                    look();
                } else if (kind < 17) {
                    foretell();
                } else {
                    tellBack();
                }
            }
            return wrong;
        }
    }

    public static void main(String[] args) {
        int wrong = 0;
        int calls = 0;
        for (int k = 0; k < RUNS && wrong < 10; k++) {
            Run run = new Run(k);
            wrong += run.play();
            calls += run.calls.size();
        }
        System.out.println("ModelTest: " + calls + " calls, " + wrong + " runs not as the model has them");
        if (wrong != 0) {
            System.exit(1);
        }
    }
}
