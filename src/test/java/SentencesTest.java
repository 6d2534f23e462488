import java.lang.reflect.Field;
import java.lang.reflect.Modifier;

/** The sentences of the document that name no bound, or that hold for calls of more than one promise. */
public final class SentencesTest extends Bounds {
    private static final String LAW = "c3,0,0,0;";
    /** One of each SORT, behind a child, all TIRED 5 but the widow; STRENGTHS of 20 and the number. */
    private static final String SORTS = "<c2,0,20,5;k0,0,20,0,6;a0,0,21,0,6;t0,0,22,0,6;w0,0,23,0,6;k0,0,24,0,6;b0,0,25,0,6;> hours(1)";

    // ---- the face, and what holds for all calls

    private static void constants() throws ReflectiveOperationException {
        sentence(1, "public static final int NONE = -1000000, BAD = -1000001, STATE = -1000002, FULL = -1000003;");
        String[] names = {"NONE", "BAD", "STATE", "FULL"};
        for (int k = 0; k < names.length; k++) {
            Field field = BlueHue.class.getField(names[k]);
            due(names[k], field.getInt(null), -1000000 - k);
            due("the type of " + names[k] + " is int", field.getType() == int.class ? 1 : 0, 1);
            due("the modifiers of " + names[k], field.getModifiers(), Modifier.PUBLIC | Modifier.STATIC | Modifier.FINAL);
        }
    }

    /** What one object is told, another that is made ahead of it, or behind it, does not have. */
    private static void apart() {
        sentence(1, "`BlueHue()`: No LAND.");
        BlueHue before = new BlueHue();
        BlueHue x = new BlueHue();
        for (char letter : "c2,1,0,0;k0,0,19,0,6;".toCharArray()) {
            x.feed(letter);
        }
        due("land()", x.land(), 1);
        due("row(0, 0, 3)", x.row(0, 0, 3), 3);
        due("set(0, 3, 0)", x.set(0, 3, 0), PLACE);
        due("image(0)", x.image(0), 1);
        due("ask(0, 0)", x.ask(0, 0), -81);
        due("hours(1)", x.hours(1), 0);
        due("feed(99)", x.feed(99), 1);
        for (BlueHue other : new BlueHue[] {before, new BlueHue()}) {
            due("count(5) of another", other.count(5), -1);
            due("undo() of another", other.undo(), STATE);
            due("restore(0) of another", other.restore(0), STATE);
            due("count(9) of another", other.count(9), 0);
            due("trace(0) of another", other.trace(0), NONE);
            due("status() of another", other.status(), 0);
            due("set(0, 0, 0) of another", other.set(0, 0, 0), NULL);
            due("land() of another", other.land(), -1000100);
            due("fault() of another", other.fault(), 1);
        }
        due("fault()", x.fault(), 0);
        due("count(5)", x.count(5), 0);
        due("status()", x.status(), 2);
    }

    private static void numbersFromNought() {
        String words = "Numbers go from 0 on.";
        sentence(3, words);
        on("row(0,0,2) row(7,0,2)");
        run("set(0,0,5)", 5, "set(0,1,6)", 6, "set(0,2,7)", PLACE, "set(7,1,6)", 6, "set(8,0,5)", BAD);
        sentence(13, words);
        on("<c3,2,0,0;k0,1,3,0,1;a2,0,4,0,1;>");
        run("wisher(0,1)", 1, "wisher(0,2)", 3, "wisher(1,0)", 2, "wisher(2,0)", BAD, "kind(0)", 4, "kind(1)", 1);
        sentence(14, words);
        on("<c3,2,0,0;k0,1,3,0,1;>");
        run("count(5)", 2, "place(2,0)", 0, "place(1,0)", 3 - 18, "place(0,0)", -18, "place(3,0)", BAD);
        sentence(21, words);
        // The hue comes to 1 behind HOUR 0, the first of the next ones, and stays there.
        on("<c2,0,0,0;r0,1;k0,1,3,0,1;>");
        tells("stolen(1,0,1)", 1);
        tells("stolen(0,0,2)", 0);
        on("<c2,0,0,0;r0,1;k0,1,3,1,1;>");
        tells("stolen(0,0,2)", 1);
        tells("stolen(1,0,2)", 2);
        sentence(25, words);
        on("<c3,0,0,0;r0,1;r0,2;k0,1,9,1,1;k0,2,9,1,1;>");
        tells("half(60)", 1);
        on("<c3,0,0,0;r0,1;r0,2;k0,1,9,1,1;k0,2,9,1,1;> hours(1)");
        tells("half(60)", 0);
        sentence(33, words);
        on("<c2,0,0,0;k0,1,3,0,1;> ask(0,0)");
        run("trace(0)", 13, "trace(1)", 10, "trace(2)", NONE);
    }

    private static void setsAreBits() {
        String words = "Sets are bits.";
        for (int place = 0; place < 6; place++) {
            sentence(14, words);
            int from = (place + 1) % 6;
            on("<c6," + place + ",20,0;r" + from + "," + place + ";k0," + place + ",0,0,6;>");
            tells("place(" + from + ",2)", 1 << place);
            sentence(18, words);
            on("<c6," + place + ",20,0;>");
            tells("visits(60)", 1 << place);
            sentence(21, words);
            // The hue is at 0 behind that HOUR alone.
            on("<c2,1,20,0;k0,0,39," + place + ",1;k0,1,40," + (place + 1) % 6 + ",1;>");
            tells("stolen(0,0,6)", 1 << place);
        }
        for (int wisher = 0; wisher < 6; wisher++) {
            sentence(19, words);
            String ones = "k0,0,9,0,6;".repeat(wisher) + "k0,1,9,0,6;" + "k0,0,9,0,6;".repeat(5 - wisher);
            on("<c2,0,0,0;r0,1;" + ones + ">");
            tells("fewest(1,1,0)", 1);
            tells("fewest(1,1,1)", 1 << wisher);
        }
        sentence(23, words);
        // A bureau alone comes to 1; in HOUR 4 a thief alone, by more than all others can.
        on("<c2,0,5,0;r0,1;a0,1,0,0,6;> row(0,0,1) set(0,0,1)");
        tells("who(0,0,0,1)", 1 << 5);
        on("<c2,0,20,0;r0,1;a0,1,20,4,1;> hours(4) row(0,0,1) set(0,0,1)");
        tells("who(0,0,0,1)", 1 << 3);
    }

    private static void firstThatFits() {
        first(2, RICH, BAD, "row(8,0,-1)", "row(0,3,-1)", "row(0,-1,-1)", "row(8,3,41)");
        first(3, RICH, BAD, "set(8,-1,0)", "set(-1,40,0)");
        first(3, RICH, NULL, "set(3,-1,0)", "set(3,40,0)");
        first(4, RICH, BAD, "copy(8,0,3,0,-1)", "copy(3,-1,8,0,1)", "copy(0,0,-1,9,1)");
        first(4, RICH, NULL, "copy(3,-1,0,0,1)", "copy(0,9,3,0,1)", "copy(3,0,3,0,99)", "copy(1,0,3,0,-1)");
        first(4, RICH, STORE, "copy(0,-1,1,0,1)", "copy(0,0,1,9,1)", "copy(0,0,1,0,-1)");
        first(5, RICH, BAD, "drop(8)", "drop(-1)");
        first(6, "feed(99)*120", BAD, "feed(256)", "feed(-1)");
        first(10, "<c2,0,20,0;> hours(24)*41 hours(15)", BAD, "hours(25)", "hours(0)", "hours(-1)");
        first(10, "<c2,0,20,0;> hours(24)*41 hours(15)", FULL, "hours(1)", "hours(24)");
        first(12, RICH, BAD, "rest(3,0)", "rest(-1,1)", "rest(2,2)", "rest(0,-1)");
        first(22, NOTHING, STATE, "seen(0,0,1,0)", "seen(8,0,1,0)", "seen(0,9,1,0)", "seen(0,0,13,2)");
        first(23, RICH, BAD, "who(3,3,0,1)", "who(0,8,9,1)", "who(0,3,0,13)", "who(0,0,9,0)");
        first(28, NOTHING, BAD, "image(2)", "image(-1)");
        first(29, NOTHING, BAD, "restore(2)", "restore(-1)");
        first(31, RICH, BAD, "as(3,2)", "as(-1,5)", "as(0,6)", "as(0,-1)");
    }

    /** Where more than one refusal or FINDING fits each of these calls, this is the first. */
    private static void first(int promise, String setup, long want, String... calls) {
        sentence(promise, "Refusals are answers, the first of these that fits, but as told: BAD (a number is not as told; "
                + "there is no such thing), STATE (as told), FULL (as told), then FINDINGS, of several the first in time");
        on(setup);
        refuse(want, calls);
    }

    // ---- what is told

    private static void sorts() {
        sentence(30, "(SORT: a one grown, w a widow, t a thief, k a child, b a bureau;");
        String sorts = "awtkb";
        for (int k = 0; k < 5; k++) {
            for (int other = 0; other < 5; other++) {
                on("<" + LAW + sorts.charAt(k) + "0,0,0,0,1;" + sorts.charAt(other) + "0,0,0,0,1;>");
                tells("kind(0)", k + 1);
                tells("kind(1)", other + 1);
            }
        }
        on(EMPTY_TAPE);
        for (char letter = 'a'; letter <= 'z'; letter++) {
            if (sorts.indexOf(letter) < 0 && letter != 'r') {
                fault(LAW + letter + "0,0,0,0,1;", 9, 1);
            }
        }
    }

    private static void numbersNotAsTold() {
        sentence(7, "2 a NUMBER that is not as told;");
        String text = "c3,1,7,2;r0,2;a1,2,30,4,5;";
        String[] parts = text.split("(?<=[a-z,;])(?=[0-9])|(?<=[0-9])(?=[,;])");
        int at = 0;
        for (int k = 0; k < parts.length; k++) {
            if (Character.isDigit(parts[k].charAt(0))) {
                String rest = String.join("", java.util.Arrays.asList(parts).subList(k + 1, parts.length));
                on(EMPTY_TAPE);
                fault(text.substring(0, at) + "99" + rest, at, 2);
                fault(text.substring(0, at) + "99", at, 2);
                fault(text.substring(0, at) + "099" + rest, at, 1);
                on(NOTHING);
                reads(text, 1);
            }
            at += parts[k].length();
        }
        due("bytes of the text", at, text.length());
    }

    /** Behind all that a text can tell a FAULT at its end yet leaves the LAND as it was. */
    private static void faultLeavesAll() {
        sentence(7, "-1000100 less the place of a FAULT: all but the tape, and what fault() tells, stays.");
        on(EMPTY_TAPE);
        String text = "c6,5,20,5;r5,4;r5,3;r0,5;b5,5,40,5,6;t4,4,40,5,6;w3,3,40,5,6;a2,2,40,5,6;";
        for (int end = 0; end < text.length(); end++) {
            if (end == 0 || text.charAt(end - 1) != ';') {
                fault(text.substring(0, end), end, 1);
            }
            if (end % 4 == 0) {
                fault(text.substring(0, end) + "?" + text.substring(end), end, 1);
            }
        }
        fault(text + "?", text.length(), 1);
        fault(text + "k6,0,0,0,1;", text.length() + 1, 2);
        fault(text + "k0,0,0,0,7;", text.length() + 9, 2);
        on("row(0,0,1) set(0,0,3) <" + text + "?>");
        run("count(5)", -1, "count(1)", 0, "count(3)", 0, "hours(1)", STATE, "count(9)", 0, "fault()", 1, "drop(0)", 1);
    }

    /** What is foretold is of the LAND that stands, not of a text that was read since then. */
    private static void foretoldOfTheLand() {
        String late = "<c2,0,13,1;t1,1,21,5,2;b0,0,23,3,4;>";
        String lateHalf = "<c3,0,13,1;t1,1,21,5,2;t2,2,21,5,2;b0,0,23,3,4;>";
        String chain = "<c6,0,0,0;r0,1;r1,2;r2,3;r3,4;r4,5;k0,1,3,3,1;k0,2,3,2,2;k0,3,3,1,3;k0,4,3,0,4;k0,5,3,5,5;>";
        String alike = "<c2,0,20,0;" + "k0,1,7,0,6;".repeat(6) + ">";
        String draws = "<c5,0,0,0;k0,0,0,0,6;k0,0,19,3,1;>";
        String row = " row(0,0,1) set(0,0,5)";
        for (String since : new String[] {"<c9>", "<c2,0,0,0;?>", "<c6,5,20,5;r5,4;b5,5,40,5,6;?>"}) {
            sentence(7, "-1000100 less the place of a FAULT: all but the tape, and what fault() tells, stays.");
            ofTheLand(late + " " + since, "place(0,0)", 13 + 23 + 6, "place(1,0)", -18, "far(0,1)", 9, "ahead(59,0)", 0, "ahead(60,0)", 1,
                    "ahead(60,1)", 1, "comes(1,60)", 60, "visits(60)", 3, "half(60)", NONE);
            ofTheLand(lateHalf + " " + since, "half(60)", 59, "half(59)", NONE);
            ofTheLand(chain + " " + since, "fewest(5,24,0)", 5, "fewest(5,24,1)", 31, "hard(4,24)", 3, "stolen(5,0,24)", 1 << 23,
                    "stolen(0,0,24)", 7, "stolen(5,8,1)", 1, "stolen(5,7,1)", 0, "round(0)", 30, "round(1)", 24);
            ofTheLand(alike + " " + since, "awake(9,0)", 531441, "awake(9,1)", 1000000, "hard(0,1)", 4);
            ofTheLand(draws + " " + since, "drawn(3,1,0)", 0, "drawn(4,1,0)", 3, "drawn(4,1,1)", 1);
            ofTheLand(chain + " hours(23) " + since + row, "seen(0,0,1,0)", 2, "seen(0,0,1,1)", 4, "who(4,0,0,1)", 1 << 4 | 1 << 5);
        }
        String other = " image(0) <c2,0,0,0;> restore(0)";
        sentence(29, "The LAND is as an IMAGE kept it");
        ofTheLand(late + other, "place(0,0)", 13 + 23 + 6, "place(1,0)", -18, "far(0,1)", 9, "ahead(60,0)", 1, "comes(1,60)", 60, "visits(60)", 3);
        ofTheLand(lateHalf + other, "half(60)", 59, "half(59)", NONE);
        ofTheLand(chain + other, "fewest(5,24,1)", 31, "hard(4,24)", 3, "stolen(5,0,24)", 1 << 23, "round(0)", 30, "round(1)", 24);
        ofTheLand(alike + other, "awake(9,0)", 531441, "awake(9,1)", 1000000);
        ofTheLand(draws + other, "drawn(4,1,0)", 3, "drawn(4,1,1)", 1);
        ofTheLand(chain + " hours(23)" + other + row, "seen(0,0,1,0)", 2, "seen(0,0,1,1)", 4, "who(4,0,0,1)", 1 << 4 | 1 << 5);
    }

    /** A call, its answer, a call, its answer .., each on an object of its own that is made so. */
    private static void ofTheLand(String setup, Object... callsAndAnswers) {
        on(setup);
        for (int i = 0; i + 1 < callsAndAnswers.length; i += 2) {
            tells((String) callsAndAnswers[i], ((Number) callsAndAnswers[i + 1]).longValue());
        }
    }

    private static void whatItIsThen() {
        sentence(3, "read with their sign): what it is then.");
        int[] given = {0, 127, 128, 255, 256, -128, -129, 32767, 32768, 65535, 65536, -32769};
        int[][] kept = {
            {0, 127, -128, -1, 0, -128, 127, -1, 0, -1, 0, -1},
            {0, 127, 128, 255, 256, -128, -129, 32767, -32768, -1, 0, 32767},
            given};
        for (int lane = 0; lane < 3; lane++) {
            on("row(5," + lane + ",1)");
            for (int k = 0; k < given.length; k++) {
                run("set(5,0," + given[k] + ")", kept[lane][k], "status()", 0);
            }
        }
    }

    // ---- what is done

    private static void whatActsAre() {
        sentence(9, "an HOUR; a wisher wishes FOR another PLACE, with another STRENGTH; one rests, or does not.");
        on(RICH);
        run("count(8)", 4, "hours(1)", 3, "count(8)", 5, "hours(3)", 3, "count(8)", 8, "wish(1,0,8)", 309, "count(8)", 9,
                "rest(1,1)", 2, "count(8)", 10, "rest(2,0)", 1, "count(8)", 11);
        String[] none = {"row(0,0,1)", "set(0,0,1)", "copy(0,0,0,1,1)", "drop(0)", "feed(99)", "land()", "fault()", "wisher(0,5)",
            "place(0,0)", "far(0,3)", "ahead(60,0)", "comes(3,60)", "visits(60)", "fewest(3,24,0)", "hard(0,24)", "stolen(0,60,24)",
            "seen(0,0,1,0)", "who(0,0,0,1)", "round(0)", "half(60)", "awake(5,0)", "drawn(60,1,0)", "image(0)", "kind(0)", "as(0,0)",
            "ask(0,0)", "trace(0)", "count(0)", "status()", "hours(25)", "wish(0,0,41)", "rest(2,1)", "restore(0)"};
        for (String call : none) {
            on(RICH + " " + call);
            run("count(8)", 4, "undo()", 3, "wisher(2,4)", 0, "undo()", 2, "wisher(0,2)", 12, "undo()", 1, "count(4)", 1);
        }
        // PLACE and STRENGTH go back, each alone and both.
        on("<c3,0,20,0;k0,1,9,0,6;>");
        run("wish(0,2,9)", 109, "undo()", 0, "wisher(0,1)", 1, "wisher(0,2)", 9);
        run("wish(0,1,8)", 109, "undo()", 0, "wisher(0,1)", 1, "wisher(0,2)", 9);
        run("wish(0,2,8)", 109, "hours(1)", 0, "undo()", 1, "wisher(0,1)", 2, "wisher(0,2)", 8, "undo()", 0, "wisher(0,1)", 1,
                "wisher(0,2)", 9);
    }

    private static void milkIsLeft() {
        sentence(14, "leaving a sort of milk");
        on("<c4,1,0,0;k0,3,20,0,1;k0,0,20,1,1;k0,1,20,2,1;>");
        int[][] milk = {{0, 0, 0, 0}, {0, 1, 0, 0}, {0, 1, 0, 1}, {1, 0, 0, 1}};
        int[] at = {1, 3, 0, 1};
        for (int hours = 0; hours < 4; hours++) {
            on("<c4,1,0,0;k0,3,20,0,1;k0,0,20,1,1;k0,1,20,2,1;>" + " hours(1)".repeat(hours));
            tells("count(5)", at[hours]);
            for (int place = 0; place < 4; place++) {
                tells("place(" + place + ",1)", milk[hours][place]);
            }
        }
    }

    // ---- what is foretold

    private static void hardForOne() {
        sentence(20, "HARD for a wisher, n HOURS: the least STRENGTH (0 to 40) of its");
        // The first alone can bring it in HOUR 0, the second in HOUR 1; what the other wishes stays as it is.
        on("<c2,0,5,0;r0,1;k0,1,2,0,1;k0,1,3,1,1;>");
        tells("hard(0,1)", 8);
        tells("hard(0,2)", 8);
        tells("hard(1,1)", NONE);
        tells("hard(1,2)", 8);
        tells("hard(1,24)", 8);
        on("<c2,0,5,0;r0,1;k0,1,8,0,1;k0,1,3,1,1;>");
        tells("hard(0,24)", 8);
        tells("hard(1,1)", 0);
        tells("hard(1,24)", 0);
        // It wishes so hard in all of these HOURS: one that is TIRED first has it on the second day alone.
        on("<c2,0,5,0;r0,1;k0,1,0,0,1;k0,0,40,0,1;> hours(1) rest(1,1)");
        tells("hard(0,5)", NONE);
        tells("hard(0,6)", 8);
        on("<c2,0,5,0;r0,1;k0,1,0,0,1;k0,0,40,0,1;>");
        tells("hard(0,24)", NONE);
    }

    private static void whoTellsSoMuch() {
        sentence(23, "WHO: a row tells so much of these;");
        // Grown ones, widows and children bring it to 1 in HOUR 0, bureaus too; a thief in HOUR 4.
        String land = "<c2,0,2,0;r0,1;a0,1,20,0,6;> row(0,2,12)";
        String late = land + " set(0,0,0) set(0,1,0) set(0,2,0) set(0,3,0)";
        String ones = " set(0,4,1) set(0,5,1) set(0,6,1) set(0,7,1) set(0,8,1) set(0,9,1) set(0,10,1) set(0,11,1)";
        who(land, 4, 1 << 3);
        who(land, 5, 0);
        who(late + ones, 12, 1 << 3);
        who(late + ones + " set(0,11,0)", 12, 0);
        who(late + ones + " set(0,11,0)", 11, 1 << 3);
        who(late + ones + " set(0,0,-1) set(0,1,-1) set(0,2,-1) set(0,3,-1)", 12, 62);
        who(late + ones + " set(0,0,-1)", 12, 1 << 3);
        who(late + ones + " set(0,0,-2)", 12, 0);
        who(late + ones + " set(0,11,2)", 12, 0);
        who(late + ones + " set(0,11,-1)", 12, 1 << 3);
        who(land + ones + " set(0,0,1) set(0,1,1) set(0,2,1) set(0,3,1)", 12, 62 - (1 << 3));
        on(late + ones);
        tells("who(0,0,4,8)", 62 - (1 << 3));
        tells("who(0,0,3,1)", 1 << 3);
        tells("who(0,0,4,1)", 62 - (1 << 3));
    }

    private static void who(String setup, int n, long kinds) {
        on(setup);
        tells("who(0,0,0," + n + ")", kinds);
    }

    private static void drawnOnes() {
        sentence(27, "the wisher that is the rest of X by how many there are");
        // The first X by 1, 2 and 3 is 16807, 33614 and 50421: by 3 it leaves 1, 2 and 0, by 5 it leaves 2, 4 and 1.
        int[] wisher = {1, 2, 0};
        int[] place = {2, 4, 1};
        for (int strong = 0; strong < 3; strong++) {
            String land = "<c5,0,0,0;";
            for (int one = 0; one < 3; one++) {
                land += "k0,0," + (one == strong ? 19 : 0) + ",0,6;";
            }
            on(land + ">");
            for (int seed = 1; seed <= 3; seed++) {
                tells("drawn(1," + seed + ",0)", wisher[seed - 1] == strong ? place[seed - 1] : 0);
                tells("drawn(1," + seed + ",1)", wisher[seed - 1] == strong ? 1 : 0);
            }
        }
        sentence(27, "wishes FOR the PLACE that is the rest of X by PLACES; where the hue is then;");
        int[] rest = {1, 1, 3, 2, 1};
        for (int places = 2; places <= 6; places++) {
            on("<c" + places + ",0,0,0;k0,0,19,0,6;>");
            tells("drawn(1,1,0)", rest[places - 2]);
            on("<c" + places + ",0,0,0;k0,0,18,0,6;>");
            tells("drawn(1,1,0)", 0);
        }
        // The third X by 1, 1622650073, draws the second of two, the fourth, 984943658, the first: it wishes so yet in HOUR 3.
        on("<c5,0,0,0;k0,0,0,0,6;k0,0,19,3,1;>");
        tells("drawn(3,1,0)", 0);
        tells("drawn(4,1,0)", 3);
        // One that rests is drawn, too, but does not wish.
        on("<c5,0,0,0;k0,0,19,0,6;> rest(0,1)");
        tells("drawn(60,1,0)", 0);
        tells("drawn(60,1,1)", 0);
    }

    // ---- what is asked

    private static void kindsOfWishers() {
        sentence(31, "KINDS of WISHERS: 0 WISHER; 1 GROWN, a WISHER; 2 WIDOW, a GROWN one; 3 THIEF, a GROWN one; 4 CHILD, a WISHER; "
                + "5 BUREAU, a CHILD. By this it is asked.");
        on(SORTS);
        // By bits, what each WISHER is.
        int[] is = {1 | 1 << 4, 1 | 1 << 1, 1 | 1 << 1 | 1 << 3, 1 | 1 << 1 | 1 << 2, 1 | 1 << 4, 1 | 1 << 4 | 1 << 5};
        for (int one = 0; one < 6; one++) {
            for (int kind = 0; kind < 6; kind++) {
                boolean so = (is[one] >> kind & 1) == 1;
                run("as(" + one + "," + kind + ")", so ? one : KIND, "status()", so ? 0 : 3);
            }
        }
    }

    private static void bodies() {
        on(SORTS);
        bodies("10 lent to all WISHERS: STRENGTH.", "ask(0,0)", 20 - 100, 13, 10);
        bodies("11 of GROWN ones: what 10 gives, and MARK.", "ask(1,0)", 21 + 6, 11, 10, 21, 20);
        bodies("12 of WIDOWS: 0 less what 11 gives.", "ask(3,0)", 0 - (23 + 6), 12, 11, 10, 24, 21, 20);
        bodies("13 of CHILDREN: what 10 gives, less 100.", "ask(4,0)", 24 - 100, 13, 10);
        bodies("14 of BUREAUS: twice what 13 gives (asked once).", "ask(5,0)", 2 * (25 - 100), 14, 13, 10);
        bodies("20 lent to all WISHERS: the number.", "ask(0,1)", 0 - (20 - 100), 23, 20, 13, 10);
        bodies("21 of GROWN ones: what 20 gives, and what it is TIRED.", "ask(1,1)", 1 + 5, 21, 20);
        bodies("22 of THIEVES: what 21 gives, less 1000.", "ask(2,1)", 2 + 5 - 1000, 22, 21, 20);
        bodies("23 of CHILDREN: what 20 gives, less SIZE.", "ask(4,1)", 4 - (24 - 100), 23, 20, 13, 10);
        bodies("24 of WIDOWS: twice what 21 gives (asked once).", "ask(3,1)", 2 * (3 + 0), 24, 21, 20);
        String nearest = "(Of an ask the BODY told for the KIND begins, else that of the nearest KIND that it is, too, else the one that is lent;";
        bodies(nearest, "ask(2,0)", 22 + (2 + 5 - 1000), 11, 10, 22, 21, 20);
        bodies(nearest, "ask(5,1)", 5 - 2 * (25 - 100), 23, 20, 14, 13, 10);
        bodies(nearest, "ask(3,0)", -29, 12, 11, 10, 24, 21, 20);
        String anew = "SIZE, MARK within others are asked of the same WISHER anew.)";
        bodies(anew, "ask(3,0)", -(23 + 2 * 3), 12, 11, 10, 24, 21, 20);
        bodies(anew, "ask(2,0)", 22 + 7 - 1000, 11, 10, 22, 21, 20);
        bodies(anew, "ask(5,1)", 5 + 150, 23, 20, 14, 13, 10);
    }

    /** An ASK answers this by these BODIES. */
    private static void bodies(String words, String call, long want, int... bodies) {
        sentence(32, words);
        on(SORTS);
        Object[] calls = new Object[2 + 2 * (bodies.length + 1)];
        calls[0] = call;
        calls[1] = want;
        for (int i = 0; i <= bodies.length; i++) {
            calls[2 + 2 * i] = "trace(" + i + ")";
            calls[3 + 2 * i] = i < bodies.length ? bodies[i] : NONE;
        }
        run(calls);
    }

    public static void main(String[] args) throws ReflectiveOperationException {
        constants();
        apart();
        numbersFromNought();
        setsAreBits();
        firstThatFits();
        sorts();
        numbersNotAsTold();
        faultLeavesAll();
        foretoldOfTheLand();
        whatItIsThen();
        whatActsAre();
        milkIsLeft();
        hardForOne();
        whoTellsSoMuch();
        drawnOnes();
        kindsOfWishers();
        bodies();
        finish("SentencesTest");
    }
}
