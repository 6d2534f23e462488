/** The bounds of IMAGES, of what is asked, and of an object's calls: promises 28 to 35. */
public final class AskBoundsTest extends Bounds {
    private static final int MAX = Integer.MAX_VALUE, MIN = Integer.MIN_VALUE;
    private static final String SWING = "<c2,0,0,0;r0,1;k0,1,3,0,1;k1,0,3,1,1;>";
    /** One of each SORT, behind a child, all TIRED 5 but the widow; STRENGTHS of 20 and the number. */
    private static final String SORTS = "<c2,0,20,5;k0,0,20,0,6;a0,0,21,0,6;t0,0,22,0,6;w0,0,23,0,6;k0,0,24,0,6;b0,0,25,0,6;> hours(1)";

    private static void images() {
        sentence(28, "An IMAGE (0, 1) is kept of the LAND: 1. BAD; STATE: no LAND.");
        on(RICH);
        run("image(0)", 1, "image(1)", 1, "count(8)", 4, "status()", 1, "count(9)", 1);
        keepsAnew("image(1)");
        beyond("image(#)", 0, 1, BAD);
        run("image(0)", 1, "hours(1)", 3, "restore(0)", 1, "count(4)", 2, "image(0)", 1, "restore(1)", 1, "restore(0)", 1, "count(4)", 2);
        run("image(0)", 1, "hours(1)", 3, "image(0)", 1, "hours(1)", 3, "restore(0)", 1, "count(4)", 3);
        on(NOTHING);
        refuse(STATE, "image(0)", "image(1)");
        beyond("image(#)", 0, 1, BAD);
        run("image(0)", STATE, "restore(0)", STATE);
    }

    /** An IMAGE kept where one was: all that is now stays, and it can be restored. */
    private static void keepsAnew(String call) {
        run("restore(0)", STATE, call, 1, "count(4)", 2, "count(5)", 2, "undo()", 3, "wisher(2,4)", 0, "restore(1)", 1, "wisher(2,4)", 1,
                "count(4)", 2, "undo()", STATE);
    }

    private static void restores() {
        sentence(29, "The LAND is as an IMAGE kept it (no ACT can be undone then): 1. BAD; STATE: none was kept.");
        on(RICH);
        run("restore(1)", 1, "count(0)", 4, "count(1)", 2, "count(2)", 1, "count(3)", 1, "count(4)", 2, "count(5)", 1, "count(6)", 1,
                "count(7)", 0, "count(8)", 0, "count(9)", 1, "undo()", STATE, "fault()", 1, "status()", 1, "trace(0)", 12,
                "wisher(0,0)", 0, "wisher(0,1)", 1, "wisher(0,2)", 3, "place(0,1)", 1, "place(0,2)", 2, "far(0,1)", 1, "kind(0)", 4,
                "drop(0)", 3, "restore(1)", 1);
        refuses("restore(0)", STATE);
        beyond("restore(#)", 0, 1, BAD);
        on("<c3,0,0,5;r0,1;r0,2;k1,1,20,0,6;w1,2,22,0,6;> hours(1) rest(1,1) wish(0,0,33) image(0) hours(3) rest(1,0) <c2,0,0,0;>");
        run("restore(0)", 1, "count(7)", 1, "wisher(0,3)", 5, "wisher(1,4)", 1, "wisher(0,1)", 0, "wisher(0,2)", 33, "place(0,2)", 6);
        on(NOTHING);
        refuse(STATE, "restore(0)", "restore(1)");
        beyond("restore(#)", 0, 1, BAD);
        on(SWING);
        refuse(STATE, "restore(0)", "restore(1)");
        beyond("restore(#)", 0, 1, BAD);
        on(SWING + " image(0)");
        refuses("restore(1)", STATE);
        run("restore(0)", 1, "restore(0)", 1, "count(8)", 0);
    }

    private static void kinds() {
        sentence(30, "The KIND of a WISHER, as told (1 to 5). BAD.");
        int[] want = {4, 1, 3, 2, 4, 5};
        on(SORTS);
        for (int one = 0; one < 6; one++) {
            tells("kind(" + one + ")", want[one]);
        }
        beyond("kind(#)", 0, 5, BAD);
        on(RICH);
        beyond("kind(#)", 0, 2, BAD);
        on("<c2,0,0,0;>");
        refuse(BAD, "kind(0)", "kind(-1)");
        on(NOTHING);
        refuse(BAD, "kind(0)", "kind(-1)");
    }

    private static void takenAs() {
        sentence(31, "A WISHER is taken as one of a KIND (0 .. 5): the WISHER's number. BAD; KIND: it is no such one.");
        int[][] kinds = {{0, 4}, {0, 1}, {0, 1, 3}, {0, 1, 2}, {0, 4}, {0, 4, 5}};
        on(SORTS + " drop(0)");
        for (int one = 0; one < 6; one++) {
            for (int kind = 0; kind < 6; kind++) {
                boolean is = false;
                for (int its : kinds[one]) {
                    is |= its == kind;
                }
                if (is) {
                    tells("as(" + one + "," + kind + ")", one);
                } else {
                    refuses("as(" + one + "," + kind + ")", KIND);
                }
            }
        }
        beyond("as(#,0)", 0, 5, BAD);
        beyond("as(#,5)", 0, 5, BAD);
        beyond("as(0,#)", 0, 5, BAD);
        beyond("as(5,#)", 0, 5, BAD);
        on(RICH);
        refuse(BAD, "as(3,5)", "as(-1,5)", "as(3,0)", "as(0,6)", "as(0,-1)");
        tells("as(0,1)", 0);
        refuses("as(0,5)", KIND);
        on(NOTHING);
        refuse(BAD, "as(0,0)", "as(0,5)", "as(0,6)");
    }

    private static void sizes() {
        sentence(32, "0 SIZE: 10 lent to all WISHERS: STRENGTH. 11 of GROWN ones: what 10 gives, and MARK.");
        on(SORTS);
        ask("ask(0,0)", 20 - 100, 13, 10);
        ask("ask(1,0)", 21 + 1 + 5, 11, 10, 21, 20);
        ask("ask(2,0)", 22 + 2 + 5 - 1000, 11, 10, 22, 21, 20);
        ask("ask(3,0)", -(23 + 2 * 3), 12, 11, 10, 24, 21, 20);
        ask("ask(4,0)", 24 - 100, 13, 10);
        ask("ask(5,0)", 2 * (25 - 100), 14, 13, 10);
        // The least STRENGTH and the greatest.
        for (int strength = 0; strength <= 40; strength += 40) {
            on(SORTS + " wish(1,0," + strength + ") wish(3,0," + strength + ") wish(4,0," + strength + ") wish(5,0," + strength + ")");
            gives("ask(1,0)", strength + 6);
            gives("ask(3,0)", -strength - 6);
            gives("ask(4,0)", strength - 100);
            gives("ask(5,0)", 2 * strength - 200);
        }
    }

    private static void marks() {
        sentence(32, "1 MARK: 20 lent to all WISHERS: the number. 21 of GROWN ones: what 20 gives, and what it is TIRED.");
        on(SORTS);
        ask("ask(0,1)", 100 - 20, 23, 20, 13, 10);
        ask("ask(1,1)", 1 + 5, 21, 20);
        ask("ask(2,1)", 2 + 5 - 1000, 22, 21, 20);
        ask("ask(3,1)", 2 * 3, 24, 21, 20);
        ask("ask(4,1)", 4 - (24 - 100), 23, 20, 13, 10);
        ask("ask(5,1)", 5 - 2 * (25 - 100), 23, 20, 14, 13, 10);
        // TIRED 0 and 20, at the first number and the last.
        on("<c2,0,20,5;a0,0,7,0,6;a0,0,7,0,6;a0,0,7,0,6;a0,0,7,0,6;a0,0,7,0,6;t0,0,7,0,6;>");
        gives("ask(0,1)", 0);
        gives("ask(5,1)", -995);
        on("<c2,0,20,5;a0,0,7,0,6;a0,0,7,0,6;a0,0,7,0,6;a0,0,7,0,6;a0,0,7,0,6;t0,0,7,0,6;> hours(5)");
        gives("ask(0,1)", 20);
        gives("ask(4,1)", 24);
        gives("ask(5,1)", -975);
        gives("ask(5,0)", -968);
    }

    /** An ASK on a new object, that has asked for another thing before, and all of THE TRACE behind it. */
    private static void ask(String call, long want, int... bodies) {
        Object[] calls = new Object[4 + 2 * 20];
        calls[0] = "ask(3,0)";
        calls[1] = -29;
        calls[2] = call;
        calls[3] = want;
        for (int i = 0; i < 20; i++) {
            calls[4 + 2 * i] = "trace(" + i + ")";
            calls[5 + 2 * i] = i < bodies.length ? bodies[i] : NONE;
        }
        run(calls);
    }

    private static void asksRefused() {
        sentence(32, "An ASK (0, 1) of a WISHER. BAD. THE TRACE is empty ahead of it (where that is refused it stays).");
        on(RICH);
        run("trace(0)", 12, "ask(2,0)", -90, "trace(0)", 13, "trace(1)", 10, "trace(2)", NONE, "status()", 1, "count(8)", 4);
        beyond("ask(#,0)", 0, 2, BAD);
        beyond("ask(#,1)", 0, 2, BAD);
        beyond("ask(0,#)", 0, 1, BAD);
        beyond("ask(2,#)", 0, 1, BAD);
        on("<c2,0,0,0;>");
        refuse(BAD, "ask(0,0)", "ask(0,1)", "ask(-1,0)");
        on(NOTHING);
        refuse(BAD, "ask(0,0)", "ask(0,1)", "ask(0,2)");
    }

    private static void askedOnce() {
        sentence(32, "14 of BUREAUS: twice what 13 gives (asked once).");
        on("<c2,0,20,0;w0,0,7,0,6;b0,0,40,0,6;>");
        run("ask(1,0)", -120, "trace(0)", 14, "trace(1)", 13, "trace(2)", 10, "trace(3)", NONE);
        sentence(32, "24 of WIDOWS: twice what 21 gives (asked once).");
        on("<c2,0,20,0;b0,0,40,0,6;w0,0,7,0,6;>");
        run("ask(1,1)", 2, "trace(0)", 24, "trace(1)", 21, "trace(2)", 20, "trace(3)", NONE);
    }

    private static void theFirst() {
        sentence(33, "each of which leaves its number in THE TRACE as it begins (the first 16)");
        // Six BODIES are the most that an ASK of these begins; so 16 bound nothing.
        on(SORTS + " ask(3,0)");
        run("trace(4)", 21, "trace(5)", 20, "trace(6)", NONE, "trace(15)", NONE, "trace(16)", NONE);
        on(SORTS + " ask(3,0)*20");
        run("trace(0)", 12, "trace(5)", 20, "trace(6)", NONE, "trace(15)", NONE, "trace(16)", NONE);
    }

    private static void traces() {
        sentence(33, "Number i of THE TRACE; NONE.");
        tells("trace(0)", NONE);
        tells("trace(-1)", NONE);
        on(RICH);
        int[] widow = {12, 11, 10, 24, 21, 20};
        for (int i = 0; i < 6; i++) {
            tells("trace(" + i + ")", widow[i]);
        }
        for (int i : new int[] {-1, 6, 7, 15, 16, 17, MAX, MIN, MIN + 1}) {
            tells("trace(" + i + ")", NONE);
        }
        on(RICH + " ask(2,0)");
        run("trace(1)", 10, "trace(2)", NONE, "trace(5)", NONE);
        sentence(33, "IMAGES and ROWS stay.");
        on(EMPTY_TAPE);
        run("<c2,0,0,0;>", 0, "trace(5)", 20, "restore(1)", 1, "trace(5)", 20);
    }

    private static void counts() {
        sentence(34, "How many: 0 ROWS, 1 PLACES, 2 roads, 3 WISHERS, 4 HOUR, 5 where the hue is (-1: no LAND), 6 how often it went, "
                + "7 how often it was HALVED, 8 ACTS that can be undone, 9 bytes on the tape. BAD.");
        int[] none = {0, 0, 0, 0, 0, -1, 0, 0, 0, 0};
        int[] rich = {4, 4, 3, 3, 2, 2, 1, 0, 4, 1};
        int[] halved = {0, 3, 2, 2, 5, 0, 0, 4, 5, 0};
        counts(NOTHING, none);
        counts(RICH, rich);
        counts("<c3,0,0,5;r0,1;r0,2;k1,1,20,0,6;k2,2,20,0,6;> hours(5)", halved);
        counts("<c> drop(0)", none);
    }

    private static void counts(String setup, int[] want) {
        on(setup);
        for (int what = 0; what < 10; what++) {
            tells("count(" + what + ")", want[what]);
        }
        beyond("count(#)", 0, 9, BAD);
    }

    private static void statuses() {
        sentence(35, "Of the latest call with a ROW, or as(), that was not BAD, STATE, FULL: the number of its FINDING; 0: it had none, or there was none.");
        tells("status()", 0);
        String[] findings = {"set(3,0,0)", "set(0,9,0)", "as(0,5)", "row(0,0,-1)", "copy(0,0,1,0,1)"};
        String[] fine = {"row(0,0,0)", "set(0,0,5)", "copy(0,0,0,0,1)", "drop(0)", "seen(0,0,1,0)", "who(0,0,0,1)", "as(0,1)"};
        long[] answers = {0, 5, 1, 3, 0, 0, 0};
        for (int k = 0; k < findings.length; k++) {
            on(RICH + " set(0,0,3)");
            run("status()", 0, findings[k], -1000011 - k, "status()", k + 1);
            on(RICH + " set(0,0,9) " + findings[k]);
            tells("status()", k + 1);
            for (int other = 0; other < fine.length; other++) {
                run("status()", k + 1, fine[other], answers[other], "status()", 0);
            }
        }
        sentence(35, "Of the latest call with a ROW, or as(), that was not BAD, STATE, FULL");
        for (String finding : findings) {
            on(RICH + " " + finding);
            refuse(BAD, "row(8,0,0)", "set(8,0,0)", "copy(8,0,0,0,0)", "drop(8)", "seen(8,0,1,0)", "who(0,8,0,1)", "as(9,0)");
        }
        on("row(0,0,-1)");
        refuse(STATE, "seen(0,0,1,0)", "seen(8,0,1,0)");
        on(RICH + " row(0,0,-1)");
        String[] others = {"feed(1)", "land()", "fault()", "undo()", "hours(1)", "wish(0,0,0)", "rest(0,1)", "wisher(0,0)", "place(0,0)",
            "far(0,0)", "ahead(0,0)", "comes(2,1)", "visits(0)", "fewest(2,1,0)", "hard(0,1)", "stolen(0,0,1)", "round(0)", "half(1)",
            "awake(0,0)", "drawn(0,1,0)", "image(0)", "restore(1)", "kind(0)", "ask(0,0)", "trace(0)", "count(0)", "status()"};
        for (String other : others) {
            on(RICH + " row(0,0,-1) " + other);
            gives("status()", 4);
        }
    }

    private static void findingsInTime() {
        sentence(35, "FINDINGS, of several the first in time: -1000010 less 1 NULL (a ROW that is missing), 2 PLACE (no such place of a ROW), "
                + "3 KIND (a WISHER that is not that), 4 SIZE (fewer than none), 5 STORE (ROWS of two LANES).");
        on(RICH);
        run("set(3,-1,0)", -1000011, "status()", 1);
        run("set(0,-1,0)", -1000012, "status()", 2);
        run("as(0,2)", -1000013, "status()", 3);
        run("row(0,0,-1)", -1000014, "status()", 4);
        run("copy(0,-1,1,0,1)", -1000015, "status()", 5);
        run("copy(3,-1,1,0,1)", -1000011, "status()", 1);
        run("copy(1,9,3,0,1)", -1000011, "status()", 1);
    }

    private static void nothingElseChanges() {
        sentence(35, "What is refused, or found, changes nothing but status().");
        on(RICH);
        refuse(BAD, "row(8,0,0)", "set(8,0,0)", "copy(0,0,8,0,0)", "drop(8)", "feed(256)", "hours(25)", "wish(0,0,41)", "rest(0,2)",
                "wisher(0,6)", "place(4,0)", "far(0,4)", "ahead(61,0)", "comes(0,61)", "visits(61)", "fewest(0,25,0)", "hard(0,25)",
                "stolen(0,61,1)", "seen(0,0,13,0)", "who(0,0,0,13)", "round(2)", "half(61)", "awake(11,0)", "drawn(61,1,0)", "image(2)",
                "restore(2)", "kind(3)", "as(0,6)", "ask(0,2)", "count(10)");
        refuse(STATE, "rest(2,1)", "restore(0)");
        refuse(NULL, "set(3,0,0)", "copy(0,0,3,0,0)", "drop(3)", "seen(3,0,1,0)", "who(0,3,0,1)");
        refuse(PLACE, "set(0,3,0)", "copy(0,3,0,0,1)", "seen(0,3,1,0)", "who(0,0,3,1)");
        refuse(KIND, "as(0,2)");
        refuse(SIZE, "row(0,0,-1)");
        refuse(STORE, "copy(0,0,1,0,1)");
        on("<c2,0,20,1;a0,0,7,0,6;> hours(24)*41 hours(15) image(0) row(0,0,2) drop(1) feed(99)*120");
        refuse(FULL, "hours(1)", "feed(99)");
    }

    private static void nothingByForetelling() {
        sentence(24, "======== 3 FORETOLD (nothing changes).");
        on(RICH + " set(0,0,3)");
        tells("ahead(60,0)", 3);
        tells("comes(3,60)", 1);
        tells("visits(60)", 12);
        tells("fewest(3,24,1)", 2);
        tells("hard(1,24)", 3);
        tells("stolen(0,60,1)", 1);
        tells("seen(0,0,1,0)", 4);
        tells("who(0,0,0,1)", 62);
        tells("half(60)", NONE);
        tells("awake(10,0)", 1);
        tells("drawn(0,1,0)", 2);
    }

    private static void allCalls() {
        sentence(1, "An object is used for at most 512 calls after it has been made; what later calls answer is free.");
        int told = SWING.length() - 2 + 1;
        on(SWING + " hours(1)*" + (511 - told));
        gives("count(4)", 511 - told);
        gives("hours(1)", (511 - told) % 6 == 0 ? 1 : 0);
        gives("undo()", 23);
        gives("ahead(60,1)", (511 - told + 60) / 6 * 2 + ((511 - told + 60) % 6 == 0 ? 0 : (511 - told + 60) % 6 == 1 ? 1 : 2));
        on("row(0,0,1)*511");
        gives("row(0,0,40)", 40);
        on("feed(99)*511");
        gives("land()", -1000101);
    }

    public static void main(String[] args) {
        images();
        restores();
        kinds();
        takenAs();
        sizes();
        marks();
        askedOnce();
        theFirst();
        asksRefused();
        traces();
        counts();
        statuses();
        findingsInTime();
        nothingElseChanges();
        nothingByForetelling();
        allCalls();
        finish("AskBoundsTest");
    }
}
