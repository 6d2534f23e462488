import java.util.Arrays;

/** What each promise of the document asks for: ordinary inputs, edges, wrong inputs. */
public final class PromisesTest {
    private static final int NONE = -1000000, BAD = -1000001, STATE = -1000002, FULL = -1000003;
    private static final int NULL = -1000011, PLACE = -1000012, KIND = -1000013, SIZE = -1000014, STORE = -1000015;

    /** Every SORT, in a line of four PLACES. */
    private static final String LINE = "c4,0,2,1;r0,1;r1,2;r2,3;"
            + "a0,2,12,0,6;w3,3,9,1,3;t1,0,8,0,6;k2,1,10,2,2;b0,3,6,2,4;";
    /** One child fetches the hue from 0 to 1 in HOUR 0, and it stays there. */
    private static final String FETCH = "c2,0,3,2;r0,1;k0,1,10,0,2;";
    /** The hue is at 1 behind HOUR 0, at 0 behind HOUR 1, and so again each six HOURS. */
    private static final String SWING = "c2,0,0,0;r0,1;k0,1,3,0,1;k1,0,3,1,1;";
    /** Two wish alike till they are too TIRED: HALVED in HOURS 0 to 3, then no more. */
    private static final String HALVES = "c3,0,0,5;r0,1;r0,2;k1,1,20,0,6;k2,2,20,0,6;";
    /** Six PLACES without a road or a wisher: the hue stays wherever it is. */
    private static final String STILL = "c6,2,20,0;";

    private static int passed = 0;
    private static int failed = 0;

    private static void due(String what, long got, long want) {
        if (got == want) {
            passed++;
            return;
        }
        failed++;
        System.out.println(what + " answered " + got + ", due is " + want);
    }

    private static int tell(BlueHue x, String text) {
        for (int i = 0; i < text.length(); i++) {
            x.feed(text.charAt(i));
        }
        return x.land();
    }

    private static BlueHue told(String text) {
        BlueHue x = new BlueHue();
        due("land of " + text, tell(x, text), wishersIn(text));
        return x;
    }

    private static int wishersIn(String text) {
        int many = 0;
        for (int i = 0; i < text.length(); i++) {
            if ("awtkb".indexOf(text.charAt(i)) >= 0) {
                many++;
            }
        }
        return many;
    }

    /** A new row with these ITEMS. */
    private static void fill(BlueHue x, int row, int lane, int... items) {
        x.row(row, lane, items.length);
        for (int i = 0; i < items.length; i++) {
            x.set(row, i, items[i]);
        }
    }

    /** The ITEM, read with the help of STILL: behind an HOUR the hue is where it was. */
    private static long item(BlueHue x, int row, int i) {
        int many = x.seen(row, i, 1, 0);
        return many == 6 ? -1 : x.seen(row, i, 1, 1);
    }

    private static void dueItems(String what, BlueHue x, int row, int... items) {
        long[] got = new long[items.length];
        long[] want = new long[items.length];
        for (int i = 0; i < items.length; i++) {
            got[i] = item(x, row, i);
            want[i] = items[i];
        }
        due(what + " left " + Arrays.toString(got) + " for " + Arrays.toString(want), Arrays.equals(got, want) ? 1 : 0, 1);
    }

    private static void dueTrace(String what, BlueHue x, int... bodies) {
        for (int i = 0; i < 17; i++) {
            due(what + " trace(" + i + ")", x.trace(i), i < bodies.length ? bodies[i] : NONE);
        }
    }

    private static void dueFault(String text, int place, int fault) {
        BlueHue x = new BlueHue();
        due("land of '" + text + "'", tell(x, text), -1000100 - place);
        due("fault of '" + text + "'", x.fault(), fault);
        due("tape behind '" + text + "'", x.count(9), 0);
        due("places behind '" + text + "'", x.count(1), 0);
    }

    private static void promise1() {
        BlueHue x = new BlueHue();
        for (int what = 0; what < 10; what++) {
            due("new count(" + what + ")", x.count(what), what == 5 ? -1 : 0);
        }
        due("new fault", x.fault(), 0);
        due("new status", x.status(), 0);
        due("new trace", x.trace(0), NONE);
        due("new undo", x.undo(), STATE);
        due("new drop", x.drop(7), NULL);
        due("NONE", BlueHue.NONE, NONE);
        due("BAD", BlueHue.BAD, BAD);
        due("STATE", BlueHue.STATE, STATE);
        due("FULL", BlueHue.FULL, FULL);
    }

    private static void promise2() {
        BlueHue x = told(STILL);
        due("row(0,0,0)", x.row(0, 0, 0), 0);
        due("row(7,2,40)", x.row(7, 2, 40), 40);
        due("row(3,1,2)", x.row(3, 1, 2), 2);
        due("rows", x.count(0), 3);
        due("row 40 has 39", x.set(7, 39, 9), 9);
        due("row 40 has no 40", x.set(7, 40, 9), PLACE);
        due("row 0 is empty", x.set(0, 0, 1), PLACE);
        due("row(-1)", x.row(-1, 0, 1), BAD);
        due("row(8)", x.row(8, 0, 1), BAD);
        due("lane -1", x.row(0, -1, 1), BAD);
        due("lane 3", x.row(0, 3, 1), BAD);
        due("41 items", x.row(0, 0, 41), BAD);
        due("great n", x.row(0, 0, Integer.MAX_VALUE), BAD);
        due("BAD ahead of SIZE", x.row(0, 3, -1), BAD);
        due("BAD row ahead of SIZE", x.row(8, 0, -1), BAD);
        due("status stays", x.status(), 2);
        due("-1 items", x.row(3, 0, -1), SIZE);
        due("status", x.status(), 4);
        due("least n", x.row(3, 0, Integer.MIN_VALUE), SIZE);
        due("row 3 stays", x.set(3, 1, 300), 300);
        fill(x, 3, 1, 5, 4);
        dueItems("filled", x, 3, 5, 4);
        due("row in place", x.row(3, 0, 3), 3);
        dueItems("in place", x, 3, 0, 0, 0);
        due("its lane is new", x.set(3, 0, 300), 44);
        due("rows yet", x.count(0), 3);
    }

    private static void promise3() {
        BlueHue x = told(STILL);
        for (int lane = 0; lane < 3; lane++) {
            x.row(lane, lane, 3);
        }
        int[] values = {0, 1, -1, 127, 128, 200, 255, 256, -128, -129, 32767, 32768, 40000, 65535, 65536,
                -32769, 8388608, Integer.MAX_VALUE, Integer.MIN_VALUE};
        for (int v : values) {
            due("byte " + v, x.set(0, 2, v), (byte) v);
            due("short " + v, x.set(1, 2, v), (short) v);
            due("int " + v, x.set(2, 2, v), v);
        }
        x.set(2, 0, 5);
        x.set(2, 1, 3);
        x.set(2, 2, -1);
        dueItems("set", x, 2, 5, 3, -1);
        due("status", x.status(), 0);
        due("set row -1", x.set(-1, 0, 0), BAD);
        due("set row 8", x.set(8, 0, 0), BAD);
        due("set missing", x.set(3, 9, 0), NULL);
        due("status NULL", x.status(), 1);
        due("set -1", x.set(2, -1, 7), PLACE);
        due("status PLACE", x.status(), 2);
        due("set 3", x.set(2, 3, 7), PLACE);
        due("set far off", x.set(2, Integer.MAX_VALUE, 7), PLACE);
        due("set far below", x.set(2, Integer.MIN_VALUE, 7), PLACE);
        due("set BAD", x.set(8, 0, 7), BAD);
        due("status stays", x.status(), 2);
        dueItems("set nothing", x, 2, 5, 3, -1);
    }

    private static void promise4() {
        BlueHue x = told(STILL);
        fill(x, 0, 0, 0, 1, 2, 3, 4);
        fill(x, 1, 0, 5, 5, 5);
        fill(x, 2, 1, 5, 5, 5);
        due("copy", x.copy(0, 1, 1, 0, 2), 2);
        dueItems("copied", x, 1, 1, 2, 5);
        dueItems("from", x, 0, 0, 1, 2, 3, 4);
        due("copy up", x.copy(0, 0, 0, 1, 4), 4);
        dueItems("copied up", x, 0, 0, 0, 1, 2, 3);
        fill(x, 0, 0, 0, 1, 2, 3, 4);
        due("copy down", x.copy(0, 2, 0, 0, 3), 3);
        dueItems("copied down", x, 0, 2, 3, 4, 3, 4);
        due("copy none", x.copy(0, 5, 1, 3, 0), 0);
        due("status", x.status(), 0);
        due("copy rows", x.copy(8, 0, 1, 0, 1), BAD);
        due("copy rows below", x.copy(0, 0, -1, 0, 1), BAD);
        due("copy missing", x.copy(0, 0, 3, 0, 1), NULL);
        due("copy of missing", x.copy(3, 0, 0, 0, 1), NULL);
        due("NULL ahead of STORE, PLACE", x.copy(2, 0, 3, -1, 1), NULL);
        due("status NULL", x.status(), 1);
        due("copy lanes", x.copy(0, 0, 2, 0, 1), STORE);
        due("status STORE", x.status(), 5);
        due("STORE ahead of PLACE", x.copy(2, -1, 0, 0, 1), STORE);
        due("copy i -1", x.copy(0, -1, 1, 0, 1), PLACE);
        due("copy j -1", x.copy(0, 0, 1, -1, 1), PLACE);
        due("copy n -1", x.copy(0, 0, 1, 0, -1), PLACE);
        due("copy beyond a", x.copy(0, 4, 1, 0, 2), PLACE);
        due("copy beyond b", x.copy(0, 0, 1, 2, 2), PLACE);
        due("none beyond a", x.copy(0, 6, 1, 0, 0), PLACE);
        due("none beyond b", x.copy(0, 0, 1, 4, 0), PLACE);
        due("copy greatest", x.copy(0, 1, 1, 1, Integer.MAX_VALUE), PLACE);
        due("copy greatest i", x.copy(0, Integer.MAX_VALUE, 1, 0, 1), PLACE);
        due("copy least n", x.copy(0, 0, 1, 0, Integer.MIN_VALUE), PLACE);
        due("status PLACE", x.status(), 2);
        dueItems("copied nothing", x, 1, 1, 2, 5);
        fill(x, 4, 2, 1 << 20);
        fill(x, 5, 2, 0);
        due("copy ints", x.copy(4, 0, 5, 0, 1), 1);
        due("int is no place", x.seen(5, 0, 1, 0), 0);
    }

    private static void promise5() {
        BlueHue x = new BlueHue();
        x.row(0, 0, 7);
        x.row(1, 0, 0);
        due("drop", x.drop(0), 7);
        due("rows", x.count(0), 1);
        due("drop of none", x.drop(1), 0);
        due("drop again", x.drop(0), NULL);
        due("status", x.status(), 1);
        due("drop -1", x.drop(-1), BAD);
        due("drop 8", x.drop(8), BAD);
        due("missing now", x.set(0, 0, 0), NULL);
        x.row(0, 0, 1);
        due("there again", x.drop(0), 1);
        due("status 0", x.status(), 0);
    }

    private static void promise6() {
        BlueHue x = new BlueHue();
        due("feed 0", x.feed(0), 1);
        due("feed 255", x.feed(255), 2);
        due("feed -1", x.feed(-1), BAD);
        due("feed 256", x.feed(256), BAD);
        due("tape", x.count(9), 2);
        for (int i = 3; i <= 120; i++) {
            due("feed", x.feed(99), i);
        }
        due("feed full", x.feed(99), FULL);
        due("BAD ahead of FULL", x.feed(256), BAD);
        due("tape full", x.count(9), 120);
        due("land", x.land(), -1000100);
        due("feed anew", x.feed(99), 1);
    }

    private static void promise7() {
        dueFault("", 0, 1);
        dueFault(" c2,0,0,0;", 0, 1);
        dueFault("C2,0,0,0;", 0, 1);
        dueFault("r0,1;", 0, 1);
        dueFault("2,0,0,0;", 0, 1);
        dueFault("c", 1, 1);
        dueFault("cc", 1, 1);
        dueFault("c,", 1, 1);
        dueFault("c1,0,0,0;", 1, 2);
        dueFault("c7,0,0,0;", 1, 2);
        dueFault("c99,0,0,0;", 1, 2);
        dueFault("c002,0,0,0;", 1, 1);
        dueFault("c2;0,0,0;", 2, 1);
        dueFault("c2 ,0,0,0;", 2, 1);
        dueFault("c2,2,0,0;", 3, 2);
        dueFault("c2,0,21,0;", 5, 2);
        dueFault("c2,0,100,0;", 5, 1);
        dueFault("c2,0,0,6;", 7, 2);
        dueFault("c2,0,20,6;", 8, 2);
        dueFault("c2,0,0,0,", 8, 1);
        dueFault("c2,0,0,0", 8, 1);
        dueFault("c2,0,0,9", 7, 2);
        dueFault("c2,0,0,0;;", 9, 1);
        dueFault("c2,0,0,0;c2,0,0,0;", 9, 1);
        dueFault("c2,0,0,0;0", 9, 1);
        dueFault("c2,0,0,0;x", 9, 1);
        dueFault("c2,0,0,0;" + (char) 233, 9, 1);
        dueFault("c2,0,0,0;" + (char) 0, 9, 1);
        dueFault("c2,0,0,0;\n", 9, 1);
        dueFault("c2,0,0,0;R0,1;", 9, 1);
        dueFault("c2,0,0,0;r", 10, 1);
        dueFault("c2,0,0,0;r2,1;", 10, 2);
        dueFault("c2,0,0,0;r0;1;", 11, 1);
        dueFault("c2,0,0,0;r0,0;", 12, 2);
        dueFault("c2,0,0,0;r0,0", 12, 2);
        dueFault("c2,0,0,0;r0,2;", 12, 2);
        dueFault("c2,0,0,0;r0,1,", 13, 1);
        dueFault("c2,0,0,0;r0,1;r0,1;", 17, 2);
        dueFault("c2,0,0,0;r0,1;r1,0;", 17, 2);
        dueFault("c2,0,0,0;k0,0,0,0,1;r0,1;", 20, 1);
        dueFault("c2,0,0,0;k2,0,0,0,1;", 10, 2);
        dueFault("c2,0,0,0;k0,2,0,0,1;", 12, 2);
        dueFault("c2,0,0,0;k0,0,41,0,1;", 14, 2);
        dueFault("c2,0,0,0;k0,0,400,0,1;", 14, 1);
        dueFault("c2,0,0,0;k0,0,0,6,1;", 16, 2);
        dueFault("c2,0,0,0;k0,0,0,0,0;", 18, 2);
        dueFault("c2,0,0,0;k0,0,0,0,7;", 18, 2);
        dueFault("c2,0,0,0;k0,0,0,0,1", 19, 1);
        dueFault("c2,0,0,0;k0,0,0,0,1,", 19, 1);
        dueFault("c2,0,0,0;k,0,0,0,1;", 10, 1);
        dueFault("c2,0,0,0;kk", 10, 1);
        dueFault("c2,0,0,0;e0,0,0,0,1;", 9, 1);
        roomOfTexts();
        whatLandLeaves();
    }

    private static void roomOfTexts() {
        String ten = "c6,0,0,0;r0,1;r0,2;r0,3;r0,4;r0,5;r1,2;r1,3;r1,4;r1,5;r2,3;";
        BlueHue x = told(ten);
        due("ten roads", x.count(2), 10);
        dueFault(ten + "r2,4;", 59, 3);
        dueFault(ten + "r0,1;", 59, 3);
        dueFault(ten + "r", 59, 3);
        String child = "k0,0,0,0,1;";
        String six = "c2,0,0,0;" + child + child + child + child + child + child;
        due("six wishers", told(six).count(3), 6);
        dueFault(six + child, 75, 3);
        dueFault(six + "a", 75, 3);
        dueFault(six + "r0,1;", 75, 1);
        dueFault(six + "z", 75, 1);
        dueFault(six + "0", 75, 1);
        BlueHue full = told("c6,5,20,5;r0,1;a0,1,40,5,6;w0,1,40,5,6;t0,1,40,5,6;k0,1,40,5,6;b0,1,40,5,6;b5,0,00,00,06;");
        due("leading 0", full.wisher(5, 2), 0);
        due("last home", full.wisher(5, 0), 5);
        due("at", full.count(5), 5);
        BlueHue two = told("c02,01,05,02;r00,01;k00,01,09,00,01;");
        due("two figures", two.count(1), 2);
        due("two figures strength", two.wisher(0, 2), 9);
    }

    private static void whatLandLeaves() {
        BlueHue x = told(FETCH);
        x.row(2, 0, 3);
        x.hours(3);
        x.rest(0, 1);
        x.image(0);
        x.feed('c');
        due("faulty text", x.land(), -1000101);
        due("hour stays", x.count(4), 3);
        due("hue stays", x.count(5), 1);
        due("acts stay", x.count(8), 4);
        due("rests stays", x.wisher(0, 4), 1);
        due("next text", tell(x, SWING), 2);
        due("hour anew", x.count(4), 0);
        due("hue anew", x.count(5), 0);
        due("went anew", x.count(6), 0);
        due("acts anew", x.count(8), 0);
        due("nobody tired", x.wisher(0, 3), 0);
        due("nobody rests", x.wisher(0, 4), 0);
        due("no milk", x.place(0, 1), 0);
        due("rows stay", x.count(0), 1);
        due("no undo", x.undo(), STATE);
        due("images stay", x.restore(0), 1);
        due("image's hour", x.count(4), 3);
        due("fault stays", x.fault(), 1);
        BlueHue halves = told(HALVES);
        halves.hours(2);
        tell(halves, STILL);
        due("halved anew", halves.count(7), 0);
        due("roads anew", halves.place(0, 2), 0);
        due("no roads", halves.count(2), 0);
        due("far anew", halves.far(0, 1), 9);
    }

    private static void promise8() {
        BlueHue x = new BlueHue();
        due("no fault", x.fault(), 0);
        tell(x, "c1,");
        due("fault 2", x.fault(), 2);
        tell(x, STILL);
        due("fault 2 yet", x.fault(), 2);
        tell(x, "");
        due("fault 1", x.fault(), 1);
    }

    private static void promise9() {
        BlueHue x = told(FETCH);
        due("undo none", x.undo(), STATE);
        x.hours(2);
        x.wish(0, 0, 7);
        x.rest(0, 1);
        due("acts", x.count(8), 4);
        due("undo rest", x.undo(), 3);
        due("rests no more", x.wisher(0, 4), 0);
        due("undo wish", x.undo(), 2);
        due("for", x.wisher(0, 1), 1);
        due("strength", x.wisher(0, 2), 10);
        due("tired", x.wisher(0, 3), 4);
        due("undo hour", x.undo(), 1);
        due("tired 2", x.wisher(0, 3), 2);
        due("hour", x.count(4), 1);
        due("milk", x.place(0, 1), 1);
        due("undo first hour", x.undo(), 0);
        due("hue", x.count(5), 0);
        due("went", x.count(6), 0);
        due("milk no more", x.place(0, 1), 0);
        due("hour 0", x.count(4), 0);
        due("undo no more", x.undo(), STATE);
        x.wish(0, 1, 10);
        due("an act that changes nothing", x.count(8), 1);
        for (int i = 0; i < 12; i++) {
            x.rest(0, 1 - i % 2);
            x.wish(0, 1, i);
        }
        due("24 acts are kept", x.count(8), 24);
        for (int i = 23; i >= 0; i--) {
            due("undo " + i, x.undo(), i);
        }
        due("oldest is forgotten", x.undo(), STATE);
        due("as the second act found it", x.wisher(0, 2), 10);
        BlueHue y = told(HALVES);
        y.hours(1);
        y.undo();
        due("halved no more", y.count(7), 0);
        due("hours beyond 24", y.hours(24), 0);
        y.hours(1);
        for (int i = 0; i < 24; i++) {
            y.undo();
        }
        due("an hour is forgotten", y.count(4), 1);
        due("refused is no act", y.rest(0, 0), STATE);
        due("no act", y.count(8), 0);
    }

    private static void promise10() {
        BlueHue x = new BlueHue();
        due("no land", x.hours(0), STATE);
        x = told(FETCH);
        due("hours 0", x.hours(0), BAD);
        due("hours 25", x.hours(25), BAD);
        due("hours -1", x.hours(-1), BAD);
        due("hours", x.hours(1), 1);
        due("tired", x.wisher(0, 3), 2);
        due("milk", x.place(0, 1), 1);
        due("no milk", x.place(1, 1), 0);
        due("went", x.count(6), 1);
        due("hours 2", x.hours(2), 1);
        due("tired less", x.wisher(0, 3), 3);
        due("hour", x.count(4), 3);
        due("acts", x.count(8), 3);
        due("hours 24", x.hours(24), 1);
        due("acts 24", x.count(8), 24);
        x = told(SWING);
        due("swing 1", x.hours(1), 1);
        due("swing 0", x.hours(1), 0);
        due("milk is where it went from", x.place(1, 1), 1);
        due("milk till it is there", x.place(0, 1), 0);
        x = told("c2,0,0,0;r0,1;k0,1,2,0,6;");
        due("it stays, if it is one of the greatest", x.hours(1), 0);
        due("that is no half", x.count(7), 0);
        x = told("c2,0,0,0;r0,1;k0,1,3,0,6;");
        due("it goes to a greater", x.hours(1), 1);
        x = told("c2,0,1,0;r0,1;k0,1,3,0,6;");
        due("it is held", x.hours(1), 0);
        x = told("c2,0,0,0;k0,1,19,0,6;");
        due("it goes without a way", x.hours(1), 1);
        halvesAndTires();
        lastHour();
    }

    private static void halvesAndTires() {
        BlueHue x = told(HALVES);
        due("halved", x.hours(6), 0);
        due("four times", x.count(7), 4);
        due("went", x.count(6), 0);
        due("tired 20 at most", x.wisher(1, 3), 20);
        x = told("c3,0,0,0;r0,1;r0,2;k1,1,20,0,6;k2,2,20,0,6;k0,0,40,0,6;");
        due("a greater wish is not halved", x.hours(1), 0);
        due("not halved", x.count(7), 0);
        x = told("c4,0,0,0;k1,1,30,0,6;k2,2,30,0,6;k3,3,40,0,6;");
        due("two alike, and a greater behind them", x.hours(1), 3);
        x = told("c4,0,0,0;k1,1,40,0,6;k2,2,30,0,6;k3,3,30,0,6;");
        due("a greater, and two alike behind it", x.hours(1), 1);
        x = told("c4,0,0,0;k1,1,30,0,6;k2,2,20,0,6;k3,3,30,0,6;");
        due("two alike about a lesser", x.hours(1), 0);
        due("halved about a lesser", x.count(7), 1);
        x = told("c6,0,0,3;t0,1,9,0,6;w0,1,9,0,6;k0,0,0,0,6;b0,0,5,0,1;a0,0,5,3,1;");
        x.hours(1);
        due("a wish of 0 tires", x.wisher(0, 3), 3);
        due("a widow is tired 0", x.wisher(1, 3), 0);
        due("no strength tires", x.wisher(2, 3), 3);
        due("a bureau tires", x.wisher(3, 3), 3);
        due("not in the hour", x.wisher(4, 3), 0);
        x.rest(0, 1);
        x.hours(1);
        due("who rests is less tired", x.wisher(0, 3), 2);
        due("an hour on", x.wisher(3, 3), 2);
        x.hours(3);
        due("0 at least", x.wisher(3, 3), 0);
    }

    private static void lastHour() {
        BlueHue x = told(SWING);
        for (int i = 0; i < 41; i++) {
            x.hours(24);
        }
        due("984 hours", x.count(4), 984);
        due("too many", x.hours(16), FULL);
        due("BAD ahead of FULL", x.hours(25), BAD);
        due("nothing passed", x.count(4), 984);
        due("just as many", x.hours(15), 0);
        due("999 hours", x.count(4), 999);
        due("no more", x.hours(1), FULL);
        x.undo();
        due("one more", x.hours(1), 0);
        due("foretold yet", x.ahead(60, 0), 0);
    }

    private static void promise11() {
        BlueHue x = new BlueHue();
        due("nobody", x.wish(0, 0, 0), BAD);
        x = told(LINE);
        due("wish", x.wish(0, 3, 40), 212);
        due("for", x.wisher(0, 1), 3);
        due("strength", x.wisher(0, 2), 40);
        due("wish again", x.wish(0, 0, 0), 340);
        due("wish the same", x.wish(0, 0, 0), 0);
        due("acts", x.count(8), 3);
        due("wisher 5", x.wish(5, 0, 0), BAD);
        due("wisher -1", x.wish(-1, 0, 0), BAD);
        due("place 4", x.wish(0, 4, 0), BAD);
        due("place -1", x.wish(0, -1, 0), BAD);
        due("strength 41", x.wish(0, 0, 41), BAD);
        due("strength -1", x.wish(0, 0, -1), BAD);
        due("refused", x.count(8), 3);
        x.hours(1);
        due("it stays by a wish of 0", x.count(5), 0);
    }

    private static void promise12() {
        BlueHue x = new BlueHue();
        due("nobody", x.rest(0, 1), BAD);
        x = told(LINE);
        due("rest", x.rest(0, 1), 1);
        due("rest another", x.rest(4, 1), 2);
        due("rest again", x.rest(4, 1), STATE);
        due("rest no more", x.rest(0, 0), 1);
        due("not again", x.rest(0, 0), STATE);
        due("rest 2", x.rest(0, 2), BAD);
        due("rest -1", x.rest(0, -1), BAD);
        due("wisher 5", x.rest(5, 1), BAD);
        due("wisher -1", x.rest(-1, 0), BAD);
        due("acts", x.count(8), 3);
        x.rest(0, 1);
        due("who rests does not wish", x.hours(1), 0);
    }

    private static void promise13() {
        BlueHue x = new BlueHue();
        due("nobody", x.wisher(0, 0), BAD);
        x = told(LINE);
        due("home", x.wisher(1, 0), 3);
        due("for", x.wisher(0, 1), 2);
        due("strength", x.wisher(3, 2), 10);
        due("tired", x.wisher(3, 3), 0);
        due("rests", x.wisher(3, 4), 0);
        due("what 6", x.wisher(0, 6), BAD);
        due("what -1", x.wisher(0, -1), BAD);
        due("wisher 5", x.wisher(5, 0), BAD);
        due("wisher -1", x.wisher(-1, 0), BAD);
        x.rest(3, 1);
        due("rests 1", x.wisher(3, 4), 1);
        x.rest(3, 0);
        wishesByHours();
        forces();
    }

    private static void wishesByHours() {
        BlueHue x = told("c2,0,20,0;k0,0,7,4,3;k0,0,7,0,6;k0,0,7,5,1;k0,0,7,1,6;");
        for (int hour = 0; hour < 14; hour++) {
            int by = hour % 6;
            due("wish 4, 3 in " + hour, x.wisher(0, 5), by >= 4 || by == 0 ? 7 : 0);
            due("wish 0, 6 in " + hour, x.wisher(1, 5), 7);
            due("wish 5, 1 in " + hour, x.wisher(2, 5), by == 5 ? 7 : 0);
            due("wish 1, 6 in " + hour, x.wisher(3, 5), 7);
            x.hours(1);
        }
        x.rest(1, 1);
        due("resting", x.wisher(1, 5), 0);
    }

    private static void forces() {
        // All wish from PLACE 0 for 2, two roads off, with 10; all are TIRED 3 more in each HOUR.
        BlueHue x = told("c4,0,20,3;r0,1;r1,2;a0,2,10,0,6;w0,2,10,0,6;t0,2,10,0,6;k0,2,10,0,6;b0,2,10,0,4;a0,3,10,0,6;");
        int[] grown = {8, 5, 2, 0, 0};
        int[] thief = {0, 0, 0, 0, 0};
        int[] child = {10, 7, 4, 1, 0};
        int[] bureau = {16, 13, 10, 7, 0};
        int[] lost = {1, 0, 0, 0, 0};
        for (int hour = 0; hour < 5; hour++) {
            due("grown " + hour, x.wisher(0, 5), grown[hour]);
            due("widow " + hour, x.wisher(1, 5), 8);
            due("thief " + hour, x.wisher(2, 5), thief[hour]);
            due("child " + hour, x.wisher(3, 5), child[hour]);
            due("bureau " + hour, x.wisher(4, 5), bureau[hour]);
            due("no way " + hour, x.wisher(5, 5), lost[hour]);
            x.hours(1);
        }
        x = told("c4,0,20,1;r0,1;r1,2;t0,2,10,4,3;b0,2,1,0,6;b0,0,1,0,1;");
        due("a bureau of a day", x.wisher(1, 5), 11);
        due("a bureau of an hour", x.wisher(2, 5), 1);
        x.hours(4);
        due("a thief at 4", x.wisher(0, 5), 16);
        due("a tired bureau", x.wisher(1, 5), 10);
        x.hours(1);
        due("a thief at 5", x.wisher(0, 5), 14);
        x.hours(1);
        due("a thief at 6", x.wisher(0, 5), 0);
    }

    private static void promise14() {
        BlueHue x = new BlueHue();
        due("no land", x.place(9, 9), STATE);
        x = told(LINE);
        due("pull 0", x.place(0, 0), 2);
        due("pull 1", x.place(1, 0), -2);
        due("pull 2", x.place(2, 0), 6);
        due("pull 3", x.place(3, 0), -6);
        due("roads of 0", x.place(0, 2), 2);
        due("roads of 1", x.place(1, 2), 5);
        due("roads of 3", x.place(3, 2), 4);
        due("place 4", x.place(4, 0), BAD);
        due("place -1", x.place(-1, 0), BAD);
        due("what 3", x.place(0, 3), BAD);
        due("what -1", x.place(0, -1), BAD);
        x.hours(1);
        due("milk", x.place(0, 1), 1);
        due("no milk", x.place(2, 1), 0);
        // HOUR 1: the grown one gives 12 - 2 - 1, the widow 9; the hue is at 2.
        due("pull of the next hour", x.place(2, 0), 11);
        due("pull of the widow's", x.place(3, 0), 7);
        due("pull behind", x.place(0, 0), -4);
        x.rest(1, 1);
        due("pull without her", x.place(3, 0), -2);
        due("pull of several", told("c2,0,1,0;k0,0,4,0,1;k0,0,5,0,1;").place(0, 0), 10);
        due("pull without a way", told(STILL).place(0, 0), -18);
    }

    private static void promise15() {
        BlueHue x = new BlueHue();
        due("no land", x.far(9, 9), STATE);
        x = told("c6,0,0,0;r0,1;r1,2;r2,3;r3,4;");
        due("far 0, 0", x.far(0, 0), 0);
        due("far 0, 1", x.far(0, 1), 1);
        due("far 4, 0", x.far(4, 0), 4);
        due("far 0, 4", x.far(0, 4), 4);
        due("no way", x.far(5, 0), 9);
        due("no way to", x.far(0, 5), 9);
        due("far 5, 5", x.far(5, 5), 0);
        due("far 6", x.far(6, 0), BAD);
        due("far to 6", x.far(0, 6), BAD);
        due("far -1", x.far(-1, 0), BAD);
        due("far to -1", x.far(0, -1), BAD);
        x = told("c6,0,0,0;r5,4;r4,3;r3,2;r2,1;r1,0;");
        due("five roads", x.far(0, 5), 5);
        x = told("c6,0,0,0;r5,4;r4,3;r3,2;r2,1;r1,0;r0,5;");
        due("around", x.far(0, 3), 3);
        due("around back", x.far(1, 5), 2);
    }

    private static void promise16() {
        BlueHue x = new BlueHue();
        due("no land", x.ahead(-1, 9), STATE);
        x = told(SWING);
        due("now", x.ahead(0, 0), 0);
        due("went by now", x.ahead(0, 1), 0);
        due("ahead 1", x.ahead(1, 0), 1);
        due("ahead 2", x.ahead(2, 0), 0);
        due("ahead 7", x.ahead(7, 0), 1);
        due("went by 7", x.ahead(7, 1), 3);
        due("ahead 60", x.ahead(60, 0), 0);
        due("went by 60", x.ahead(60, 1), 20);
        due("ahead 61", x.ahead(61, 0), BAD);
        due("ahead -1", x.ahead(-1, 0), BAD);
        due("what 2", x.ahead(1, 2), BAD);
        due("what -1", x.ahead(1, -1), BAD);
        due("nothing changes", x.count(4) + x.count(6) + x.count(8), 0);
        x.hours(1);
        due("those until now, too", x.ahead(1, 1), 2);
    }

    private static void promise17() {
        BlueHue x = new BlueHue();
        due("no land", x.comes(9, 0), STATE);
        x = told(SWING);
        due("now", x.comes(0, 1), 0);
        due("comes", x.comes(1, 1), 1);
        due("comes of 60", x.comes(1, 60), 1);
        x.hours(2);
        due("not yet", x.comes(1, 4), NONE);
        due("the last", x.comes(1, 5), 5);
        due("place 2", x.comes(2, 5), BAD);
        due("place -1", x.comes(-1, 5), BAD);
        due("n 0", x.comes(0, 0), BAD);
        due("n 61", x.comes(0, 61), BAD);
        due("never", told(HALVES).comes(1, 60), NONE);
    }

    private static void promise18() {
        BlueHue x = new BlueHue();
        due("no land", x.visits(-1), STATE);
        x = told(LINE);
        due("now", x.visits(0), 1);
        due("one hour", x.visits(1), 5);
        due("n -1", x.visits(-1), BAD);
        due("n 61", x.visits(61), BAD);
        due("still", told(STILL).visits(60), 4);
        x = told(SWING);
        x.hours(2);
        due("not yet", x.visits(4), 1);
        due("the last", x.visits(5), 3);
        due("all", x.visits(60), 3);
        due("nothing changes", x.count(4), 2);
    }

    private static void promise19() {
        BlueHue x = new BlueHue();
        due("no land", x.fewest(9, 0, 9), STATE);
        // To 1 it takes 3 at least: the second alone, or the first and the third.
        x = told("c3,0,0,0;r0,1;r0,2;k0,1,2,0,6;k0,1,5,0,6;k0,1,1,0,6;k0,2,6,0,6;");
        due("fewest", x.fewest(1, 1, 0), 1);
        due("which", x.fewest(1, 1, 1), 2);
        due("nobody", x.fewest(0, 24, 0), 0);
        due("no bits", x.fewest(0, 24, 1), 0);
        due("another", x.fewest(2, 1, 1), 8);
        x.rest(1, 1);
        due("who rest do so", x.fewest(1, 1, 0), 2);
        due("both", x.fewest(1, 1, 1), 5);
        x.rest(0, 1);
        due("never", x.fewest(1, 1, 0), NONE);
        due("which never", x.fewest(1, 1, 1), NONE);
        due("place 3", x.fewest(3, 1, 0), BAD);
        due("place -1", x.fewest(-1, 1, 0), BAD);
        due("n 0", x.fewest(1, 0, 0), BAD);
        due("n 25", x.fewest(1, 25, 0), BAD);
        due("what 2", x.fewest(1, 1, 2), BAD);
        due("what -1", x.fewest(1, 1, -1), BAD);
        due("nothing changes", x.count(8), 2);
        x = told("c2,0,0,0;r0,1;k0,1,9,0,6;k0,1,9,0,6;");
        due("the least bits", x.fewest(1, 3, 1), 1);
        x = told(SWING);
        due("by hours", x.fewest(1, 2, 1), 1);
        due("back by nobody", x.fewest(0, 2, 1), 0);
        x.hours(1);
        due("back by one", x.fewest(0, 1, 1), 2);
        x = told("c2,0,20,0;k0,1,12,0,6;k0,1,12,0,6;k0,1,12,0,6;k0,1,12,0,6;");
        due("all four", x.fewest(1, 1, 1), 15);
        x = told("c2,0,20,0;k0,1,7,0,6;k0,1,7,0,6;k0,1,7,0,6;k0,1,7,0,6;k0,1,7,0,6;k0,1,7,0,6;");
        due("all six", x.fewest(1, 1, 0), 6);
        due("which six", x.fewest(1, 1, 1), 63);
    }

    private static void promise20() {
        BlueHue x = new BlueHue();
        due("nobody", x.hard(0, 1), BAD);
        x = told(FETCH);
        due("hard", x.hard(0, 1), 6);
        due("hard and tired", x.hard(0, 2), 6);
        due("strength stays", x.wisher(0, 2), 10);
        due("n 0", x.hard(0, 0), BAD);
        due("n 25", x.hard(0, 25), BAD);
        due("wisher 1", x.hard(1, 1), BAD);
        due("wisher -1", x.hard(-1, 1), BAD);
        x.wish(0, 0, 4);
        due("it is there", x.hard(0, 24), 0);
        due("just so hard", told("c2,0,20,0;k0,1,0,0,1;").hard(0, 1), 39);
        due("the hardest", told("c2,0,20,0;k0,1,0,0,1;k0,0,1,0,1;").hard(0, 1), 40);
        due("too hard", told("c2,0,20,0;k0,1,0,0,1;k0,0,2,0,1;").hard(0, 1), NONE);
        x = told("c2,0,20,0;k0,1,0,1,1;");
        due("not in its hours", x.hard(0, 1), NONE);
        due("in its hours", x.hard(0, 2), 39);
        x.rest(0, 1);
        due("who rests", x.hard(0, 24), NONE);
    }

    private static void promise21() {
        BlueHue x = new BlueHue();
        due("no land", x.stolen(9, 99, 99), STATE);
        x = told("c2,1,20,0;");
        due("one too few", x.stolen(0, 37, 3), 0);
        due("halfway stays", x.stolen(0, 38, 3), 0);
        due("stolen", x.stolen(0, 39, 3), 7);
        due("stolen 24", x.stolen(0, 60, 24), (1 << 24) - 1);
        due("where it is", x.stolen(1, 0, 1), 1);
        due("place 2", x.stolen(2, 1, 1), BAD);
        due("place -1", x.stolen(-1, 1, 1), BAD);
        due("s -1", x.stolen(0, -1, 1), BAD);
        due("s 61", x.stolen(0, 61, 1), BAD);
        due("n 0", x.stolen(0, 1, 0), BAD);
        due("n 25", x.stolen(0, 1, 25), BAD);
        due("nothing changes", x.count(4) + x.count(8), 0);
        x = told(SWING);
        // It is at 1 behind HOUR 0; kept there in HOUR 1 by a wish that 3 - 2 does not pass.
        due("by itself, and kept", x.stolen(1, 1, 3), 3);
        due("by itself alone", x.stolen(1, 0, 3), 1);
        due("in each hour alone", x.stolen(1, 3, 3), 7);
        x = told("c3,0,0,0;r0,1;r0,2;k0,1,9,0,6;");
        due("halved it stays", x.stolen(2, 9, 1), 0);
        due("halved it is where it is", x.stolen(0, 0, 1), 0);
        due("halves leave it", told(HALVES).stolen(0, 0, 5), 31);
        due("a sliver more", x.stolen(2, 10, 1), 1);
    }

    private static void promise22() {
        BlueHue x = new BlueHue();
        due("no land", x.seen(9, 0, 0, 9), STATE);
        x = told(STILL);
        fill(x, 0, 0, -1, -1, 3, 3, -1, 6, -2, 100);
        due("unknown", x.seen(0, 0, 2, 0), 6);
        due("the least", x.seen(0, 0, 2, 1), 0);
        due("known", x.seen(0, 0, 5, 0), 1);
        due("known place", x.seen(0, 0, 5, 1), 3);
        due("no place", x.seen(0, 5, 1, 0), 0);
        due("none", x.seen(0, 5, 1, 1), NONE);
        due("less than -1", x.seen(0, 6, 1, 0), 0);
        due("far more", x.seen(0, 7, 1, 0), 0);
        due("status", x.status(), 0);
        due("row 8", x.seen(8, 0, 1, 0), BAD);
        due("row -1", x.seen(-1, 0, 1, 0), BAD);
        due("n 0", x.seen(0, 0, 0, 0), BAD);
        due("n 13", x.seen(0, 0, 13, 0), BAD);
        due("what 2", x.seen(0, 0, 1, 2), BAD);
        due("what -1", x.seen(0, 0, 1, -1), BAD);
        due("BAD ahead of NULL", x.seen(1, 0, 13, 0), BAD);
        due("missing", x.seen(1, 99, 1, 0), NULL);
        due("status NULL", x.status(), 1);
        due("i -1", x.seen(0, -1, 1, 0), PLACE);
        due("beyond", x.seen(0, 7, 2, 0), PLACE);
        due("far beyond", x.seen(0, Integer.MAX_VALUE, 12, 0), PLACE);
        due("status PLACE", x.status(), 2);
        seenOnItsWay();
    }

    private static void seenOnItsWay() {
        BlueHue x = told(SWING);
        fill(x, 0, 2, 1, 0, 0, 0, 0, 0, 1, 0, 0, 0, 0, 0);
        due("twelve hours", x.seen(0, 0, 12, 0), 2);
        due("its least", x.seen(0, 0, 12, 1), 0);
        due("from 1 on", x.seen(0, 1, 1, 0), 0);
        x.hours(1);
        due("from an hour later", x.seen(0, 1, 11, 0), 2);
        x.hours(1);
        fill(x, 1, 1, 1, 1, -1, 1);
        due("it stays where it is", x.seen(1, 0, 4, 0), 1);
        due("and that is 1", x.seen(1, 0, 4, 1), 1);
        due("nothing changes", x.count(5), 0);
        x = told("c2,0,5,0;");
        fill(x, 0, 0, 2);
        due("no such place", x.seen(0, 0, 1, 0), 0);
    }

    private static void promise23() {
        BlueHue x = new BlueHue();
        due("nobody", x.who(0, 0, 0, 1), BAD);
        // From 0 for 1, a road off, with 4: a child's 4 goes ahead of HOLD 1 and FAR 2, a grown one's 3 not.
        x = told("c2,0,1,0;r0,1;a0,1,4,0,6;");
        fill(x, 0, 0, 1, 0, -1);
        due("who brings it", x.who(0, 0, 0, 1), 1 << 4 | 1 << 5);
        due("who does not", x.who(0, 0, 1, 1), 1 << 1 | 1 << 2 | 1 << 3);
        due("who, unknown", x.who(0, 0, 2, 1), 62);
        due("nobody so", x.who(0, 0, 0, 2), 0);
        due("status", x.status(), 0);
        due("kind stays", x.kind(0), 1);
        due("wisher 1", x.who(1, 0, 0, 1), BAD);
        due("wisher -1", x.who(-1, 0, 0, 1), BAD);
        due("row 8", x.who(0, 8, 0, 1), BAD);
        due("row -1", x.who(0, -1, 0, 1), BAD);
        due("n 0", x.who(0, 0, 0, 0), BAD);
        due("n 13", x.who(0, 0, 0, 13), BAD);
        due("missing", x.who(0, 1, -1, 1), NULL);
        due("status NULL", x.status(), 1);
        due("i -1", x.who(0, 0, -1, 1), PLACE);
        due("beyond", x.who(0, 0, 2, 2), PLACE);
        due("status PLACE", x.status(), 2);
        whoIsTired();
    }

    private static void whoIsTired() {
        // A grown one, TIRED 20, would not move it; a widow is TIRED 0, a bureau has 10 more.
        BlueHue x = told("c2,0,5,5;r0,1;a1,1,12,0,6;");
        x.hours(4);
        due("tired", x.wisher(0, 3), 20);
        due("it went", x.count(5), 1);
        x.wish(0, 0, 9);
        fill(x, 0, 0, 0, 0);
        due("who is not tired", x.who(0, 0, 0, 1), 1 << 2 | 1 << 5);
        due("tired yet", x.wisher(0, 3), 20);
        x = told("c2,0,5,0;r0,1;t1,1,12,0,6;");
        fill(x, 0, 0, 0, 0, 0, 0, 1);
        due("a thief, at 4", x.who(0, 0, 0, 5), 1 << 3);
        x = told("c2,0,0,5;r0,1;w1,1,3,0,6;k0,0,2,0,6;");
        fill(x, 0, 0, 1, 1);
        due("who was a widow is tired 0 at first", x.who(0, 0, 0, 1), 1 << 5);
    }

    private static void promise24() {
        BlueHue x = new BlueHue();
        due("no land", x.round(2), STATE);
        x = told(STILL);
        due("round", x.round(0), 6);
        due("behind fewer", x.round(1), 0);
        due("what 2", x.round(2), BAD);
        due("what -1", x.round(-1), BAD);
        x = told(SWING);
        due("swing", x.round(0), 6);
        due("swing fewer", x.round(1), 0);
        // TIRED 2, 4, 3, 2, 1, 0 behind HOURS 1 to 6; at 1 from the first on.
        x = told(FETCH);
        due("fetch", x.round(0), 7);
        due("fetch fewer", x.round(1), 1);
        x.hours(1);
        due("fetched", x.round(0), 6);
        due("fetched fewer", x.round(1), 0);
        // TIRED by 5 in one HOUR of six, and 5 less in the others: again so by 6.
        due("tired by the day", told("c2,0,9,5;k0,0,9,0,1;").round(0), 6);
        // Always TIRED by 1 more: 20 behind 20 HOURS, and the HOUR by 6 again behind 26.
        x = told("c2,0,9,1;k0,0,9,0,6;");
        due("tired for ever", x.round(0), 26);
        due("tired from 20 on", x.round(1), 20);
        // A widow is not TIRED, so her round is that of nobody.
        due("a widow's", told("c2,0,9,1;w0,0,9,0,6;").round(0), 6);
    }

    private static void promise25() {
        BlueHue x = new BlueHue();
        due("no land", x.half(0), STATE);
        x = told(HALVES);
        due("halved now", x.half(1), 0);
        x.hours(4);
        due("no more", x.half(60), NONE);
        due("n 0", x.half(0), BAD);
        due("n 61", x.half(61), BAD);
        x = told("c3,0,0,0;r0,1;r0,2;k1,1,20,3,1;k2,2,20,3,1;");
        due("not yet", x.half(3), NONE);
        due("in the last", x.half(4), 3);
        due("first of many", x.half(60), 3);
        x.hours(4);
        due("the next", x.half(60), 5);
        due("of several where it is", told("c2,0,0,0;r0,1;k0,1,2,0,6;").half(60), NONE);
    }

    private static void promise26() {
        BlueHue x = new BlueHue();
        due("no land", x.awake(-1, 9), STATE);
        x = told(FETCH);
        due("all awake", x.awake(10, 0), 1);
        due("by", x.awake(10, 1), 1);
        due("none awake", x.awake(0, 0), 0);
        due("0 by 1", x.awake(0, 1), 1);
        due("4 of 10", x.awake(4, 0), 2);
        due("by 5", x.awake(4, 1), 5);
        due("p 11", x.awake(11, 0), BAD);
        due("p -1", x.awake(-1, 0), BAD);
        due("what 2", x.awake(5, 2), BAD);
        due("what -1", x.awake(5, -1), BAD);
        // Each alone brings it, both halve it: 2 * 3/10 * 7/10.
        x = told(HALVES);
        due("one of two", x.awake(3, 0), 21);
        due("by 50", x.awake(3, 1), 50);
        due("nothing changes", x.count(4), 0);
        x.rest(0, 1);
        due("one rests", x.awake(3, 0), 3);
        due("by 10", x.awake(3, 1), 10);
        // All six are needed: 3 to the 6th by 10 to the 6th.
        x = told("c2,0,20,0;k0,1,7,0,6;k0,1,7,0,6;k0,1,7,0,6;k0,1,7,0,6;k0,1,7,0,6;k0,1,7,0,6;");
        due("six", x.awake(3, 0), 729);
        due("by a million", x.awake(3, 1), 1000000);
        due("one hour of none", told("c2,0,0,0;k0,1,40,1,1;").awake(5, 0), 0);
        // One holds it: it goes, if the first is awake and the second is not.
        due("held", told("c2,0,0,0;k0,1,40,0,1;k0,0,40,0,1;").awake(2, 0), 4);
        due("held by", told("c2,0,0,0;k0,1,40,0,1;k0,0,40,0,1;").awake(2, 1), 25);
    }

    private static void promise27() {
        BlueHue x = new BlueHue();
        due("no land", x.drawn(-1, 0, 9), STATE);
        x = told("c3,0,0,0;k0,0,40,0,6;");
        // X: 16807, 282475249, 1622650073, 984943658, 1144108930 from 1 on; by 3: 1, 1, 2, 2, 1.
        due("drawn 0", x.drawn(0, 1, 0), 0);
        due("drawn 1", x.drawn(1, 1, 0), 1);
        due("drawn 2", x.drawn(2, 1, 0), 1);
        due("drawn 3", x.drawn(3, 1, 0), 2);
        due("drawn 4", x.drawn(4, 1, 0), 2);
        due("drawn 5", x.drawn(5, 1, 0), 1);
        due("went 0", x.drawn(0, 1, 1), 0);
        due("went 1", x.drawn(1, 1, 1), 1);
        due("went 2", x.drawn(2, 1, 1), 1);
        due("went 5", x.drawn(5, 1, 1), 3);
        due("for stays", x.wisher(0, 1), 0);
        due("n -1", x.drawn(-1, 1, 0), BAD);
        due("n 61", x.drawn(61, 1, 0), BAD);
        due("seed 0", x.drawn(1, 0, 0), BAD);
        due("seed 1000000", x.drawn(1, 1000000, 0), BAD);
        due("what 2", x.drawn(1, 1, 2), BAD);
        due("what -1", x.drawn(1, 1, -1), BAD);
        x.wish(0, 2, 40);
        x.hours(1);
        due("went in these", x.drawn(1, 1, 1), 1);
        due("went ever", x.count(6), 1);
        due("nobody", told(STILL).drawn(60, 999999, 0), 2);
        // 16807 by 2 is 1, by 3 is 1: the second now wishes FOR 1.
        x = told("c3,0,0,0;k0,0,9,0,6;k0,0,20,0,6;");
        due("the one drawn", x.drawn(1, 1, 0), 0);
        x = told("c3,0,0,0;k0,0,0,0,6;k0,0,30,0,6;");
        due("the other", x.drawn(1, 1, 0), 1);
        bySeed();
    }

    private static void bySeed() {
        BlueHue x = told("c6,0,0,0;k0,0,40,0,6;");
        long seed = 999999;
        long at = seed;
        for (int n = 1; n <= 60; n++) {
            at = at * 16807 % 2147483647L;
            due("drawn " + n + " by 999999", x.drawn(n, (int) seed, 0), at % 6);
        }
    }

    private static void promise28() {
        BlueHue x = new BlueHue();
        due("image 2", x.image(2), BAD);
        due("image -1", x.image(-1), BAD);
        due("no land", x.image(1), STATE);
        x = told(FETCH);
        due("image", x.image(0), 1);
        due("image 1", x.image(1), 1);
        due("it is no act", x.count(8), 0);
        x.hours(1);
        due("image anew", x.image(1), 1);
        x.hours(5);
        due("restore anew", x.restore(1), 1);
        due("hour 1", x.count(4), 1);
        due("restore first", x.restore(0), 1);
        due("hour 0", x.count(4), 0);
    }

    private static void promise29() {
        BlueHue x = new BlueHue();
        due("restore 2", x.restore(2), BAD);
        due("restore -1", x.restore(-1), BAD);
        due("none kept", x.restore(0), STATE);
        x = told(HALVES);
        x.hours(2);
        x.wish(0, 2, 33);
        x.rest(1, 1);
        x.image(1);
        due("the other", x.restore(0), STATE);
        x.row(0, 0, 3);
        tell(x, FETCH);
        x.hours(1);
        due("restore", x.restore(1), 1);
        due("places", x.count(1), 3);
        due("roads", x.count(2), 2);
        due("wishers", x.count(3), 2);
        due("hour", x.count(4), 2);
        due("hue", x.count(5), 0);
        due("went", x.count(6), 0);
        due("halved", x.count(7), 2);
        due("no act", x.count(8), 0);
        due("undo", x.undo(), STATE);
        due("for", x.wisher(0, 1), 2);
        due("strength", x.wisher(0, 2), 33);
        due("tired", x.wisher(0, 3), 10);
        due("rests", x.wisher(1, 4), 1);
        due("home", x.wisher(1, 0), 2);
        due("far", x.far(1, 2), 2);
        due("rows stay", x.count(0), 1);
        x.hours(3);
        due("restore again", x.restore(1), 1);
        due("hour again", x.count(4), 2);
        x = told(FETCH);
        x.hours(1);
        x.image(0);
        x.wish(0, 0, 40);
        x.hours(1);
        due("milk is 1", x.place(1, 1), 1);
        x.restore(0);
        due("milk is 0", x.place(0, 1), 1);
        due("not 1", x.place(1, 1), 0);
        due("kind", x.kind(0), 4);
    }

    private static void promise30() {
        BlueHue x = new BlueHue();
        due("nobody", x.kind(0), BAD);
        x = told(LINE);
        for (int one = 0; one < 5; one++) {
            due("kind " + one, x.kind(one), one + 1);
        }
        due("kind -1", x.kind(-1), BAD);
        due("kind 5", x.kind(5), BAD);
    }

    private static void promise31() {
        BlueHue x = new BlueHue();
        due("nobody", x.as(0, 0), BAD);
        x = told(LINE);
        boolean[][] is = {
            {true, true, false, false, false, false},
            {true, true, true, false, false, false},
            {true, true, false, true, false, false},
            {true, false, false, false, true, false},
            {true, false, false, false, true, true},
        };
        for (int one = 0; one < 5; one++) {
            for (int kind = 0; kind < 6; kind++) {
                due("as " + one + ", " + kind, x.as(one, kind), is[one][kind] ? one : KIND);
                due("status of as " + one + ", " + kind, x.status(), is[one][kind] ? 0 : 3);
            }
        }
        due("as none", x.as(0, 5), KIND);
        due("as 6", x.as(0, 6), BAD);
        due("as -1", x.as(0, -1), BAD);
        due("wisher 5", x.as(5, 0), BAD);
        due("wisher -1", x.as(-1, 0), BAD);
        due("status stays", x.status(), 3);
    }

    private static void promise32() {
        BlueHue x = new BlueHue();
        due("nobody", x.ask(0, 0), BAD);
        // Each is its number, STRENGTH 20 + number, and TIRED 5 behind an HOUR.
        x = told("c2,0,20,5;k0,0,7,0,6;a0,0,21,0,6;t0,0,22,0,6;w0,0,23,0,6;k0,0,24,0,6;b0,0,25,0,6;");
        x.hours(1);
        due("size of grown", x.ask(1, 0), 21 + 1 + 5);
        dueTrace("size of grown", x, 11, 10, 21, 20);
        due("size of thief", x.ask(2, 0), 22 + 2 + 5 - 1000);
        dueTrace("size of thief", x, 11, 10, 22, 21, 20);
        due("size of widow", x.ask(3, 0), -(23 + 2 * 3));
        dueTrace("size of widow", x, 12, 11, 10, 24, 21, 20);
        due("size of child", x.ask(4, 0), 24 - 100);
        dueTrace("size of child", x, 13, 10);
        due("size of bureau", x.ask(5, 0), 2 * (25 - 100));
        dueTrace("size of bureau", x, 14, 13, 10);
        due("mark of grown", x.ask(1, 1), 6);
        dueTrace("mark of grown", x, 21, 20);
        due("mark of thief", x.ask(2, 1), 2 + 5 - 1000);
        dueTrace("mark of thief", x, 22, 21, 20);
        due("mark of widow", x.ask(3, 1), 6);
        dueTrace("mark of widow", x, 24, 21, 20);
        due("mark of child", x.ask(4, 1), 4 - (24 - 100));
        dueTrace("mark of child", x, 23, 20, 13, 10);
        due("mark of bureau", x.ask(5, 1), 5 - 2 * (25 - 100));
        dueTrace("mark of bureau", x, 23, 20, 14, 13, 10);
        due("ask 2", x.ask(0, 2), BAD);
        due("ask -1", x.ask(0, -1), BAD);
        due("wisher 6", x.ask(6, 0), BAD);
        due("wisher -1", x.ask(-1, 0), BAD);
        dueTrace("refused", x, 23, 20, 14, 13, 10);
        x.wish(4, 0, 40);
        due("size of a changed wish", x.ask(4, 0), -60);
        due("asked for nothing else", x.count(8), 2);
    }

    private static void promise33() {
        BlueHue x = told(LINE);
        due("none yet", x.trace(0), NONE);
        x.ask(3, 0);
        due("first", x.trace(0), 13);
        due("second", x.trace(1), 10);
        due("third", x.trace(2), NONE);
        due("-1", x.trace(-1), NONE);
        due("16", x.trace(16), NONE);
        due("greatest", x.trace(Integer.MAX_VALUE), NONE);
        due("least", x.trace(Integer.MIN_VALUE), NONE);
        tell(x, SWING);
        due("stays by a new land", x.trace(0), 13);
    }

    private static void promise34() {
        BlueHue x = told(HALVES);
        x.row(1, 0, 4);
        x.row(5, 0, 4);
        x.hours(5);
        x.feed('c');
        int[] want = {2, 3, 2, 2, 5, 0, 0, 4, 5, 1};
        for (int what = 0; what < 10; what++) {
            due("count(" + what + ")", x.count(what), want[what]);
        }
        due("count(10)", x.count(10), BAD);
        due("count(-1)", x.count(-1), BAD);
        x = told(SWING);
        x.hours(7);
        due("where", x.count(5), 1);
        due("went", x.count(6), 3);
        due("halved", x.count(7), 0);
        due("status", x.status(), 0);
    }

    private static void promise35() {
        BlueHue x = told(LINE);
        x.row(0, 0, -1);
        due("SIZE", x.status(), 4);
        x.count(0);
        x.hours(1);
        x.kind(0);
        x.ask(0, 0);
        due("calls without a row leave it", x.status(), 4);
        x.row(9, 0, 0);
        x.drop(-1);
        x.as(9, 0);
        x.seen(0, 0, 13, 0);
        x.who(9, 0, 0, 1);
        due("BAD leaves it", x.status(), 4);
        x.as(0, 0);
        due("as", x.status(), 0);
        x.as(0, 5);
        due("KIND", x.status(), 3);
        x.row(0, 0, 2);
        due("row", x.status(), 0);
        x.drop(1);
        due("NULL", x.status(), 1);
        x.set(0, 0, 3);
        due("set", x.status(), 0);
        x.set(0, 2, 3);
        due("PLACE", x.status(), 2);
        x.copy(0, 0, 0, 1, 1);
        due("copy", x.status(), 0);
        x.row(1, 1, 2);
        x.copy(0, 0, 1, 0, 0);
        due("STORE", x.status(), 5);
        x.seen(0, 0, 2, 0);
        due("seen", x.status(), 0);
        x.who(0, 7, 0, 2);
        due("who NULL", x.status(), 1);
        x.who(0, 0, 0, 2);
        due("who", x.status(), 0);
        x.seen(0, 1, 2, 0);
        due("seen PLACE", x.status(), 2);
        x.drop(0);
        due("drop", x.status(), 0);
        BlueHue none = new BlueHue();
        none.drop(0);
        none.seen(0, 0, 1, 0);
        due("STATE leaves it", none.status(), 1);
    }

    public static void main(String[] args) {
        promise1();
        promise2();
        promise3();
        promise4();
        promise5();
        promise6();
        promise7();
        promise8();
        promise9();
        promise10();
        promise11();
        promise12();
        promise13();
        promise14();
        promise15();
        promise16();
        promise17();
        promise18();
        promise19();
        promise20();
        promise21();
        promise22();
        promise23();
        promise24();
        promise25();
        promise26();
        promise27();
        promise28();
        promise29();
        promise30();
        promise31();
        promise32();
        promise33();
        promise34();
        promise35();
        System.out.println("PromisesTest: " + passed + " answers as due, " + failed + " not");
        if (failed != 0) {
            System.exit(1);
        }
    }
}
