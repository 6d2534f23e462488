import java.io.IOException;
import java.lang.reflect.Method;
import java.lang.reflect.Modifier;
import java.nio.file.Files;
import java.nio.file.Path;
import java.util.HashMap;
import java.util.LinkedHashMap;
import java.util.Map;

/**
 * What the tests of the document's sentences share. A test names a promise and a sentence of the document, tells how its
 * objects are made, and then which call is due to answer what, and what it leaves behind.
 *
 * Calls are told as text: "hours(2)"; "<c2,0,0,0;>" feeds these bytes and calls land(); "feed(99)*120" is done so often.
 */
class Bounds {
    static final long NONE = -1000000, BAD = -1000001, STATE = -1000002, FULL = -1000003;
    static final long NULL = -1000011, PLACE = -1000012, KIND = -1000013, SIZE = -1000014, STORE = -1000015;

    static final String NOTHING = "";
    /** Something of all that a call could change: a LAND, ACTS, ROWS, an IMAGE, a FAULT, THE TRACE, a FINDING, the tape. */
    static final String EMPTY_TAPE = "<c2,0,0,0;r0,1;k0,1,3,0,1;> hours(2) image(1) "
            + "<c4,0,2,1;r0,1;r1,2;r2,3;a0,2,12,0,6;w3,3,9,1,3;k2,1,10,2,2;> "
            + "row(0,0,3) set(0,0,1) set(0,1,-1) row(1,2,2) set(1,0,2) row(2,0,0) row(4,0,2) <c> "
            + "hours(2) wish(0,3,7) rest(2,1) ask(1,0) set(3,0,0)";
    static final String RICH = EMPTY_TAPE + " feed(114)";
    /** Reads ITEMS: the hue stays where it is, so that a row of one ITEM tells it. */
    private static final String STILL = "c6,2,20,0;";
    /** What a LAND will be, by all that foretells; of calls with a ROW, which leave another status(), none. */
    private static final String[] FORETOLD = {"ahead(60,0)", "ahead(60,1)", "comes(0,60)", "comes(1,60)", "visits(60)", "fewest(0,24,1)",
        "fewest(1,24,1)", "hard(0,24)", "stolen(0,30,24)", "stolen(1,30,24)", "round(0)", "round(1)", "half(60)", "awake(3,0)", "awake(3,1)",
        "drawn(60,9,0)", "drawn(60,9,1)"};
    private static final int MOST_CALLS = 512;

    private static final Map<String, Method> FACE = new HashMap<>();
    private static final Map<String, Map<String, Long>> TWINS = new HashMap<>();
    private static String document = "";
    private static String sentence = "";
    private static String setup = NOTHING;
    private static int right = 0;
    private static int wrong = 0;

    static {
        for (Method method : BlueHue.class.getDeclaredMethods()) {
            if (Modifier.isPublic(method.getModifiers())) {
                FACE.put(method.getName(), method);
            }
        }
        try {
            document = Files.readString(Path.of("../shared/DOC.md"));
        } catch (IOException e) {
            System.out.println("no document is here to look the sentences up in");
        }
    }

    /** An object, and how many calls it has had. */
    private static final class Subject {
        final BlueHue hue = new BlueHue();
        int calls = 0;

        long call(String told) {
            int open = told.indexOf('(');
            String[] numbers = told.substring(open + 1, told.length() - 1).split(",");
            Method method = FACE.get(told.substring(0, open));
            Object[] given = new Object[method.getParameterCount()];
            for (int i = 0; i < given.length; i++) {
                given[i] = Integer.parseInt(numbers[i].trim());
            }
            calls++;
            if (calls == MOST_CALLS + 1) {
                due("the test itself makes more calls than an object is used for", calls, MOST_CALLS);
            }
            try {
                return ((Number) method.invoke(hue, given)).longValue();
            } catch (ReflectiveOperationException e) {
                System.out.println(sentence + told + " throws " + e.getCause());
                wrong++;
                return Long.MIN_VALUE;
            }
        }

        void feed(String text) {
            for (int i = 0; i < text.length(); i++) {
                call("feed(" + (int) text.charAt(i) + ")");
            }
        }

        long tell(String text) {
            feed(text);
            return call("land()");
        }
    }

    // ---- what a test says

    /** The sentence of the document that the lines behind it hold to. */
    static void sentence(int promise, String words) {
        sentence = "promise " + promise + ", '" + words + "': ";
        if (!document.isEmpty() && !document.contains(words)) {
            System.out.println("note: the document has no such words now: " + sentence);
        }
        setup = NOTHING;
    }

    /** How each object of the lines behind this one is made. */
    static void on(String calls) {
        setup = calls;
    }

    /** A call on a new object is due to answer this. */
    static void gives(String call, long want) {
        due(call, made().call(call), want);
    }

    /** A run of calls on one new object: a call, its answer, a call, its answer .. */
    static void run(Object... callsAndAnswers) {
        Subject x = made();
        String told = "";
        for (int i = 0; i + 1 < callsAndAnswers.length; i += 2) {
            String call = (String) callsAndAnswers[i];
            told += " " + call;
            long want = ((Number) callsAndAnswers[i + 1]).longValue();
            due(told, call.startsWith("<") ? x.tell(inside(call)) : x.call(call), want);
        }
    }

    /** A call is refused, or finds something: it answers this and changes nothing but status(). */
    static void refuses(String call, long want) {
        Subject x = made();
        due(call, x.call(call), want);
        boolean finding = want <= NULL && want >= STORE;
        dueAsTwin(call, x, finding ? Long.valueOf(-1000010 - want) : null, null);
    }

    /** Each of these is refused so. */
    static void refuse(long want, String... calls) {
        for (String call : calls) {
            refuses(call, want);
        }
    }

    /** A call with # in place of a number is refused so just below the least, just above the greatest, and far off. */
    static void beyond(String call, int least, int greatest, long want) {
        for (int number : new int[] {least - 1, greatest + 1, Integer.MIN_VALUE, Integer.MAX_VALUE, Integer.MIN_VALUE + 1}) {
            refuses(call.replace("#", Integer.toString(number)), want);
        }
    }

    /** A call only looks: it answers this and changes nothing (status() is 0, if it looks at a ROW). */
    static void tells(String call, long want) {
        Subject x = made();
        due(call, x.call(call), want);
        boolean looks = call.startsWith("seen") || call.startsWith("who") || call.startsWith("as");
        dueAsTwin(call, x, looks ? Long.valueOf(0) : null, null);
    }

    /** A text has a FAULT at a byte: all but the tape, and what fault() tells, stays. */
    static void fault(String text, int place, int number) {
        Subject x = made();
        x.feed(text);
        due("land() of '" + text + "'", x.call("land()"), -1000100 - place);
        dueAsTwin("land() of '" + text + "'", x, null, (long) number);
    }

    /** A text without a FAULT: how many WISHERS are read; fault() stays. */
    static void reads(String text, int wishers) {
        Subject x = made();
        long before = x.call("fault()");
        due("land() of '" + text + "'", x.tell(text), wishers);
        due("count(3) behind '" + text + "'", x.call("count(3)"), wishers);
        due("fault() behind '" + text + "'", x.call("fault()"), before);
        due("the tape behind '" + text + "'", x.call("count(9)"), 0);
    }

    /** The first ITEMS of a row on a new object, behind these calls: -1, PLACES 0 to 5, or 99 for any other. */
    static void items(String calls, int row, int... want) {
        Subject x = made();
        done(x, calls);
        x.tell(STILL);
        for (int i = 0; i < want.length; i++) {
            due(calls + " leaves ITEM " + i + " of row " + row, item(x, row, i), want[i]);
        }
    }

    static void due(String what, long got, long want) {
        if (got == want) {
            right++;
            return;
        }
        wrong++;
        System.out.println(sentence + (setup.isEmpty() ? "" : "on " + setup + ": ") + what + " answered " + got + ", due is " + want);
    }

    static void finish(String name) {
        System.out.println(name + ": " + right + " answers as due, " + wrong + " not");
        if (wrong != 0) {
            System.exit(1);
        }
    }

    // ---- how objects are made and compared

    private static Subject made() {
        Subject x = new Subject();
        done(x, setup);
        return x;
    }

    private static void done(Subject x, String calls) {
        for (String call : calls.trim().isEmpty() ? new String[0] : calls.trim().split(" ")) {
            int star = call.lastIndexOf('*');
            if (call.startsWith("<")) {
                x.tell(inside(call));
            } else {
                int times = star < 0 ? 1 : Integer.parseInt(call.substring(star + 1));
                for (int i = 0; i < times; i++) {
                    x.call(star < 0 ? call : call.substring(0, star));
                }
            }
        }
    }

    private static String inside(String told) {
        return told.substring(1, told.length() - 1);
    }

    /** Whether all that can be looked at is as on an object that had all calls but the last. */
    private static void dueAsTwin(String what, Subject x, Long status, Long fault) {
        if (!TWINS.containsKey(setup)) {
            TWINS.put(setup, look(made()));
        }
        Map<String, Long> want = new LinkedHashMap<>(TWINS.get(setup));
        if (status != null) {
            want.put("status()", status);
        }
        if (fault != null) {
            want.put("fault()", fault);
        }
        Map<String, Long> got = look(x);
        for (String label : want.keySet()) {
            Long seen = got.get(label);
            due(what + ", and then " + label, seen == null ? Long.MIN_VALUE : seen, want.get(label));
        }
        due(what + ", and then so many looks", got.size(), want.size());
    }

    // ---- all that can be looked at; the object is used up by it

    private static Map<String, Long> look(Subject x) {
        Map<String, Long> seen = new LinkedHashMap<>();
        lookAtNow(x, seen);
        lookAtActs(x, seen);
        seen.put("land() of the tape", x.call("land()"));
        seen.put("places by the tape", x.call("count(1)"));
        for (int k = 0; k < 2; k++) {
            seen.put("restore(" + k + ")", x.call("restore(" + k + ")"));
            for (int what = 1; what < 9; what++) {
                seen.put("image " + k + ": count(" + what + ")", x.call("count(" + what + ")"));
            }
            lookAtWishers(x, seen, "image " + k + ": ", 4);
        }
        lookAtRows(x, seen);
        return seen;
    }

    private static void lookAtNow(Subject x, Map<String, Long> seen) {
        seen.put("status()", x.call("status()"));
        seen.put("fault()", x.call("fault()"));
        for (int i = 0; i < 7; i++) {
            seen.put("trace(" + i + ")", x.call("trace(" + i + ")"));
        }
        for (int what = 0; what < 10; what++) {
            seen.put("count(" + what + ")", x.call("count(" + what + ")"));
        }
        lookAtWishers(x, seen, "", 6);
        for (int place = 0; place < x.call("count(1)"); place++) {
            for (int what = 0; what < 3; what++) {
                seen.put("place(" + place + "," + what + ")", x.call("place(" + place + "," + what + ")"));
            }
            seen.put("far(0," + place + ")", x.call("far(0," + place + ")"));
        }
        for (String call : FORETOLD) {
            seen.put(call, x.call(call));
        }
    }

    private static void lookAtWishers(Subject x, Map<String, Long> seen, String ahead, int whats) {
        for (int one = 0; one < x.call("count(3)"); one++) {
            seen.put(ahead + "kind(" + one + ")", x.call("kind(" + one + ")"));
            for (int what = 0; what < whats; what++) {
                seen.put(ahead + "wisher(" + one + "," + what + ")", x.call("wisher(" + one + "," + what + ")"));
            }
        }
    }

    private static void lookAtActs(Subject x, Map<String, Long> seen) {
        for (int k = 0; k < 26; k++) {
            long kept = x.call("undo()");
            seen.put("undo " + k, kept);
            if (kept < 0) {
                break;
            }
            for (String call : new String[] {"count(4)", "count(5)", "wisher(0,1)", "wisher(0,2)", "wisher(0,4)"}) {
                seen.put("undo " + k + ": " + call, x.call(call));
            }
        }
    }

    private static void lookAtRows(Subject x, Map<String, Long> seen) {
        x.tell(STILL);
        for (int row = 0; row < 8; row++) {
            for (int i = 0; i < 3; i++) {
                seen.put("row " + row + ", ITEM " + i, item(x, row, i));
            }
            seen.put("LANE of row " + row, x.call("set(" + row + ",0,70000)"));
            seen.put("drop(" + row + ")", x.call("drop(" + row + ")"));
        }
    }

    /** On STILL: an ITEM that is -1 or a PLACE, 99 for any other, or what the call found. */
    private static long item(Subject x, int row, int i) {
        long many = x.call("seen(" + row + "," + i + ",1,0)");
        if (many == 6) {
            return -1;
        }
        return many == 1 ? x.call("seen(" + row + "," + i + ",1,1)") : many == 0 ? 99 : many;
    }
}
