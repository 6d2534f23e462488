/** The bounds of what is FORETOLD: promises 16 to 27. */
public final class ForetoldBoundsTest extends Bounds {
    private static final int MAX = Integer.MAX_VALUE, MIN = Integer.MIN_VALUE;
    /** The hue is at 1 behind HOUR 0, at 0 behind HOUR 1, and so again each six HOURS. */
    private static final String SWING = "<c2,0,0,0;r0,1;k0,1,3,0,1;k1,0,3,1,1;>";
    /** A PLACE farther a day, each by one wisher more: at 1 behind 4 HOURS, at 2 behind 9, 3: 14, 4: 19, 5: 24, and for ever. */
    private static final String CHAIN = "<c6,0,0,0;r0,1;r1,2;r2,3;r3,4;r4,5;k0,1,3,3,1;k0,2,3,2,2;k0,3,3,1,3;k0,4,3,0,4;k0,5,3,5,5;>";
    /** A bureau holds the hue at 0, two more TIRED each day; behind 60 HOURS a thief has it at 1 at last. */
    private static final String LATE = "<c2,0,13,1;t1,1,21,5,2;b0,0,23,3,4;>";
    /** So, too, but with two thieves that wish alike. */
    private static final String LATE_HALF = "<c3,0,13,1;t1,1,21,5,2;t2,2,21,5,2;b0,0,23,3,4;>";
    /** The hue stays wherever it is. */
    private static final String STILL = "<c3,2,20,0;>";
    private static final String SIX_ALIKE = "<c2,0,20,0;k0,1,7,0,6;k0,1,7,0,6;k0,1,7,0,6;k0,1,7,0,6;k0,1,7,0,6;k0,1,7,0,6;>";

    private static void ahead() {
        sentence(16, "AHEAD by n HOURS (0 to 60): where the hue is, how often it went by then (those until now, too).");
        on(LATE);
        tells("ahead(0,0)", 0);
        tells("ahead(1,0)", 0);
        tells("ahead(59,0)", 0);
        tells("ahead(60,0)", 1);
        tells("ahead(0,1)", 0);
        tells("ahead(59,1)", 0);
        tells("ahead(60,1)", 1);
        on(SWING + " hours(1)");
        tells("ahead(0,0)", 1);
        tells("ahead(0,1)", 1);
        tells("ahead(60,0)", 1);
        tells("ahead(60,1)", 21);
        on(RICH);
        beyond("ahead(#,0)", 0, 60, BAD);
        beyond("ahead(#,1)", 0, 60, BAD);
        beyond("ahead(0,#)", 0, 1, BAD);
        beyond("ahead(60,#)", 0, 1, BAD);
        noLand(16, "AHEAD: where (what = 0), how often it went (1). BAD; STATE: no LAND (ahead of BAD).",
                "ahead(0,0)", "ahead(-1,0)", "ahead(61,0)", "ahead(0,-1)", "ahead(0,2)");
    }

    private static void comes() {
        sentence(17, "COMES: the first of the next n HOURS (1 to 60; 0: now) behind which it is at a PLACE; NONE.");
        on(LATE);
        tells("comes(1,60)", 60);
        tells("comes(1,59)", NONE);
        tells("comes(0,1)", 0);
        tells("comes(0,60)", 0);
        on(CHAIN);
        tells("comes(1,1)", NONE);
        tells("comes(1,3)", NONE);
        tells("comes(1,4)", 4);
        tells("comes(5,23)", NONE);
        tells("comes(5,24)", 24);
        tells("comes(5,60)", 24);
        on(SWING);
        tells("comes(1,1)", 1);
        tells("comes(0,1)", 0);
        on(SWING + " hours(1)");
        tells("comes(1,1)", 0);
        tells("comes(0,1)", 1);
        on(RICH);
        beyond("comes(#,1)", 0, 3, BAD);
        beyond("comes(#,60)", 0, 3, BAD);
        beyond("comes(0,#)", 1, 60, BAD);
        beyond("comes(3,#)", 1, 60, BAD);
        noLand(17, "COMES; NONE. BAD; STATE: no LAND (ahead of BAD).", "comes(0,1)", "comes(-1,1)", "comes(6,1)", "comes(0,0)", "comes(0,61)");
    }

    private static void visits() {
        sentence(18, "VISITS: PLACES (bits) at which it is now or behind one of the next n HOURS (0 to 60).");
        on(LATE);
        tells("visits(0)", 1);
        tells("visits(59)", 1);
        tells("visits(60)", 3);
        on(CHAIN);
        tells("visits(0)", 1);
        tells("visits(3)", 1);
        tells("visits(4)", 3);
        tells("visits(23)", 31);
        tells("visits(24)", 63);
        on(CHAIN + " hours(24)");
        tells("visits(0)", 32);
        tells("visits(60)", 32);
        on(RICH);
        beyond("visits(#)", 0, 60, BAD);
        noLand(18, "VISITS. BAD; STATE: no LAND (ahead of BAD).", "visits(0)", "visits(-1)", "visits(61)");
    }

    private static void fewest() {
        sentence(19, "FEWEST for a PLACE, n HOURS (1 to 24): the fewest wishers so that, all others resting from now on (who rest do so), "
                + "the hue is there behind n HOURS: how many; which (bits), of several the least; NONE.");
        on(CHAIN);
        fewest(5, 24, 5, 31);
        fewest(5, 23, NONE, NONE);
        fewest(4, 24, 4, 15);
        fewest(1, 4, 1, 1);
        fewest(1, 3, NONE, NONE);
        fewest(1, 1, NONE, NONE);
        fewest(0, 1, 0, 0);
        fewest(0, 24, 0, 0);
        on(CHAIN + " rest(0,1)");
        fewest(1, 24, NONE, NONE);
        fewest(5, 24, NONE, NONE);
        fewest(0, 24, 0, 0);
        on(CHAIN + " hours(24)");
        fewest(5, 1, 0, 0);
        fewest(4, 1, 1, 8);
        on(SIX_ALIKE);
        fewest(1, 1, 6, 63);
        on(SIX_ALIKE + " rest(5,1)");
        fewest(1, 1, NONE, NONE);
        on(STILL);
        fewest(2, 24, 0, 0);
        fewest(0, 24, NONE, NONE);
        // Seven in all bring it; two of them do so in four ways.
        on("<c2,0,4,0;r0,1;k0,1,1,0,6;k0,1,2,0,6;k0,1,5,0,6;k0,1,6,0,6;>");
        fewest(1, 1, 2, 6);
        on("<c2,0,4,0;r0,1;k0,1,1,0,6;k0,1,2,0,6;k0,1,5,0,6;k0,1,6,0,6;> rest(1,1)");
        fewest(1, 1, 2, 9);
        on("<c2,0,4,0;r0,1;k0,1,1,0,6;k0,1,2,0,6;k0,1,5,0,6;k0,1,6,0,6;> rest(0,1) rest(2,1)");
        fewest(1, 1, 2, 10);
        on("<c2,0,4,0;r0,1;k0,1,1,0,6;k0,1,2,0,6;k0,1,5,0,6;k0,1,7,0,6;>");
        fewest(1, 1, 1, 8);
    }

    private static void fewest(int place, int n, long many, long which) {
        tells("fewest(" + place + "," + n + ",0)", many);
        tells("fewest(" + place + "," + n + ",1)", which);
    }

    private static void fewestRefused() {
        sentence(19, "FEWEST: how many (what = 0), which (1); NONE. BAD; STATE: no LAND (ahead of BAD).");
        on(RICH);
        for (int what = 0; what < 2; what++) {
            beyond("fewest(#,1," + what + ")", 0, 3, BAD);
            beyond("fewest(#,24," + what + ")", 0, 3, BAD);
            beyond("fewest(0,#," + what + ")", 1, 24, BAD);
            beyond("fewest(3,#," + what + ")", 1, 24, BAD);
        }
        beyond("fewest(0,1,#)", 0, 1, BAD);
        beyond("fewest(3,24,#)", 0, 1, BAD);
        noLand(19, "FEWEST: how many (what = 0), which (1); NONE. BAD; STATE: no LAND (ahead of BAD).",
                "fewest(0,1,0)", "fewest(-1,1,0)", "fewest(6,1,0)", "fewest(0,0,0)", "fewest(0,25,0)", "fewest(0,1,-1)", "fewest(0,1,2)");
    }

    private static void hard() {
        sentence(20, "the least STRENGTH (0 to 40) of its by which the hue is at what it wishes FOR behind n HOURS; NONE.");
        on("<c2,0,20,0;k0,1,0,0,1;>");
        tells("hard(0,1)", 39);
        tells("hard(0,24)", 39);
        on("<c2,0,20,0;k0,1,0,0,1;k0,0,1,0,1;>");
        tells("hard(0,1)", 40);
        on("<c2,0,20,0;k0,1,40,0,1;k0,0,2,0,1;>");
        tells("hard(0,1)", NONE);
        tells("hard(0,24)", NONE);
        tells("hard(1,1)", 2);
        on("<c2,0,20,0;k0,0,40,0,1;>");
        tells("hard(0,1)", 0);
        on("<c2,0,0,0;r0,1;k0,1,40,0,1;k1,1,2,0,1;>");
        tells("hard(0,1)", 1);
        on("<c2,0,0,0;r0,1;k0,1,40,0,1;k1,1,3,0,1;>");
        tells("hard(0,1)", 0);
        on("<c2,0,20,0;k0,1,0,0,1;> rest(0,1)");
        tells("hard(0,24)", NONE);
        sentence(20, "HARD (1 to 24 HOURS); NONE. BAD.");
        on(CHAIN);
        tells("hard(4,24)", 3);
        tells("hard(4,23)", 5);
        tells("hard(4,1)", 11);
        tells("hard(0,1)", NONE);
        tells("hard(0,3)", NONE);
        tells("hard(0,4)", 3);
        on(RICH);
        beyond("hard(#,1)", 0, 2, BAD);
        beyond("hard(#,24)", 0, 2, BAD);
        beyond("hard(0,#)", 1, 24, BAD);
        beyond("hard(2,#)", 1, 24, BAD);
        on(STILL);
        refuse(BAD, "hard(0,1)", "hard(-1,1)");
        on(NOTHING);
        refuse(BAD, "hard(0,1)", "hard(-1,1)", "hard(0,0)", "hard(0,25)");
    }

    private static void stolen() {
        sentence(21, "STOLEN: HOURS (bits) of the next n (1 to 24) behind which the hue would be at a PLACE, were there in that HOUR alone one more WISH of s (0 to 60) for it.");
        on(CHAIN);
        tells("stolen(5,0,24)", 1 << 23);
        tells("stolen(5,0,23)", 0);
        tells("stolen(5,0,1)", 0);
        tells("stolen(0,0,1)", 1);
        tells("stolen(0,0,24)", 7);
        tells("stolen(5,60,24)", (1 << 24) - 1);
        tells("stolen(5,60,1)", 1);
        // 3 are wished for it in this HOUR, and it is five roads off.
        tells("stolen(5,7,1)", 0);
        tells("stolen(5,8,1)", 1);
        on("<c2,1,20,0;k1,1,22,0,6;>");
        tells("stolen(0,60,24)", 0);
        on("<c2,1,20,0;k1,1,21,0,6;>");
        tells("stolen(0,60,24)", (1 << 24) - 1);
        tells("stolen(0,59,24)", 0);
        tells("stolen(1,0,24)", (1 << 24) - 1);
        on(RICH);
        beyond("stolen(#,0,1)", 0, 3, BAD);
        beyond("stolen(#,60,24)", 0, 3, BAD);
        beyond("stolen(0,#,1)", 0, 60, BAD);
        beyond("stolen(3,#,24)", 0, 60, BAD);
        beyond("stolen(0,0,#)", 1, 24, BAD);
        beyond("stolen(3,60,#)", 1, 24, BAD);
        noLand(21, "STOLEN. BAD; STATE: no LAND (ahead of BAD).", "stolen(0,0,1)", "stolen(-1,0,1)", "stolen(6,0,1)",
                "stolen(0,-1,1)", "stolen(0,61,1)", "stolen(0,0,0)", "stolen(0,0,25)");
    }

    private static void seenItems() {
        sentence(22, "(-1: not known; another number that is no PLACE: never so)");
        String row = STILL + " row(0,2,2) set(0,1,-1) ";
        seen(row + "set(0,0,-1)", 2, 3, 0);
        seen(row + "set(0,0,-2)", 2, 0, NONE);
        seen(row + "set(0,0,0)", 2, 1, 0);
        seen(row + "set(0,0,1)", 2, 1, 1);
        seen(row + "set(0,0,2)", 2, 1, 2);
        seen(row + "set(0,0,3)", 2, 0, NONE);
        seen(row + "set(0,0,6)", 2, 0, NONE);
        seen(row + "set(0,0," + MAX + ")", 2, 0, NONE);
        seen(row + "set(0,0," + MIN + ")", 2, 0, NONE);
        row = "<c6,2,20,0;> row(0,2,2) set(0,1,-1) ";
        seen(row + "set(0,0,5)", 2, 1, 5);
        seen(row + "set(0,0,6)", 2, 0, NONE);
        row = STILL + " row(0,0,2) set(0,1,-1) ";
        seen(row + "set(0,0,255)", 2, 3, 0);
        seen(row + "set(0,0,254)", 2, 0, NONE);
        seen(row + "set(0,0,256)", 2, 1, 0);
        row = STILL + " row(0,1,2) set(0,1,-1) ";
        seen(row + "set(0,0,255)", 2, 0, NONE);
        seen(row + "set(0,0,65535)", 2, 3, 0);
        seen(row + "set(0,0,65538)", 2, 1, 2);
        sentence(22, "PLACES at which it can be now, so that it comes so: how many; the least; NONE.");
        // In this HOUR it comes from 4 to 5, and stays wherever else it is.
        row = CHAIN + " hours(23) row(0,2,1) ";
        seen(row + "set(0,0,5)", 1, 2, 4);
        seen(row + "set(0,0,4)", 1, 0, NONE);
        seen(row + "set(0,0,3)", 1, 1, 3);
        seen(row + "set(0,0,0)", 1, 1, 0);
        seen(row + "set(0,0,-1)", 1, 6, 0);
    }

    /** SEEN by the first n ITEMS of row 0: how many PLACES, and the least. */
    private static void seen(String setup, int n, long many, long least) {
        on(setup);
        tells("seen(0,0," + n + ",0)", many);
        tells("seen(0,0," + n + ",1)", least);
    }

    private static void seenHours() {
        sentence(22, "SEEN: a row tells where the hue was behind each of n HOURS (1 to 12) from now on");
        String unknown = "row(0,0,13)";
        for (int i = 0; i < 12; i++) {
            unknown += " set(0," + i + ",-1)";
        }
        on(STILL + " " + unknown + " set(0,12,1)");
        tells("seen(0,0,12,0)", 3);
        tells("seen(0,1,12,0)", 1);
        tells("seen(0,1,12,1)", 1);
        tells("seen(0,1,11,0)", 3);
        tells("seen(0,12,1,1)", 1);
        tells("seen(0,0,1,0)", 3);
        refuse(BAD, "seen(0,0,13,0)", "seen(0,0,0,0)");
        refuse(PLACE, "seen(0,2,12,0)", "seen(0,13,1,0)", "seen(0,-1,1,0)");
        // At 1 behind 4 HOURS, at 2 behind 9; the last of twelve is the first ITEM that is not so.
        on(CHAIN + " row(0,1,12) set(0,3,1) set(0,4,1) set(0,5,1) set(0,6,1) set(0,7,1) set(0,8,2) set(0,9,2) set(0,10,2) set(0,11,2)");
        tells("seen(0,0,12,0)", 1);
        tells("seen(0,0,12,1)", 0);
        on(CHAIN + " row(0,1,12) set(0,3,1) set(0,4,1) set(0,5,1) set(0,6,1) set(0,7,1) set(0,8,2) set(0,9,2) set(0,10,2) set(0,11,3)");
        tells("seen(0,0,11,0)", 1);
        tells("seen(0,0,12,0)", 0);
        tells("seen(0,0,12,1)", NONE);
    }

    private static void seenRefused() {
        sentence(22, "SEEN, n ITEMS of a ROW from i on: how many (what = 0), the least (1; NONE). "
                + "BAD: ROW, n, what; STATE: no LAND (ahead of BAD); NULL; PLACE.");
        on(RICH);
        for (int what = 0; what < 2; what++) {
            beyond("seen(#,0,1," + what + ")", 0, 7, BAD);
            beyond("seen(0,0,#," + what + ")", 1, 12, BAD);
            beyond("seen(0,#,1," + what + ")", 0, 2, PLACE);
            beyond("seen(0,#,2," + what + ")", 0, 1, PLACE);
            beyond("seen(0,#,3," + what + ")", 0, 0, PLACE);
            beyond("seen(2,#,1," + what + ")", 0, -1, PLACE);
        }
        beyond("seen(0,0,1,#)", 0, 1, BAD);
        refuse(NULL, "seen(3,0,1,0)", "seen(7,0,12,1)", "seen(3,-1,1,0)", "seen(7,40,12,1)");
        refuse(BAD, "seen(3,0,0,0)", "seen(3,0,13,0)", "seen(3,0,1,2)", "seen(8,-1,0,2)", "seen(-1,0,1,0)");
        refuse(BAD, "seen(0,-1,0,0)", "seen(0,5,13,0)", "seen(0,5,1,-1)", "seen(2,0,0,0)");
        refuse(PLACE, "seen(0,0,4,0)", "seen(0,0,12,1)", "seen(0," + MAX + ",12,0)", "seen(0," + MIN + ",12,0)");
        tells("seen(0,1,1,0)", 4);
        tells("seen(0,1,1,1)", 0);
        tells("seen(0,0,3,0)", 0);
        tells("seen(0,0,3,1)", NONE);
        noLand(22, "STATE: no LAND (ahead of BAD); NULL; PLACE.", "seen(0,0,1,0)", "seen(0,1,2,1)", "seen(8,0,1,0)", "seen(-1,0,1,0)",
                "seen(0,0,0,0)", "seen(0,0,13,0)", "seen(0,0,1,2)", "seen(0,0,1,-1)", "seen(3,0,1,0)", "seen(0,-1,1,0)", "seen(0,3,1,0)");
    }

    private static void kindsBySeen() {
        sentence(23, "KINDS (bits 1 to 5) by which it comes so, a wisher being of that KIND, all else as it is.");
        String row = "<c2,0,20,0;k0,0,0,0,1;> row(0,2,1) ";
        who(row + "set(0,0,-1)", 62);
        who(row + "set(0,0,0)", 62);
        who(row + "set(0,0,1)", 0);
        who(row + "set(0,0,2)", 0);
        who(row + "set(0,0,-2)", 0);
        // A bureau alone is strong enough, or it alone is too strong.
        row = "<c2,0,5,0;r0,1;a0,1,0,0,6;> row(0,0,1) ";
        who(row + "set(0,0,1)", 1 << 5);
        who(row + "set(0,0,0)", 62 - (1 << 5));
        // In HOUR 4 one that is TIRED 4, and FAR 1, goes by more than 7: so much STRENGTH it takes of each KIND.
        int[] least = {0, 13, 9, 9, 12, 0};
        for (int strength = 0; strength <= 14; strength++) {
            row = "<c2,0,5,1;r0,1;a0,1,0,0,6;> hours(4) wish(0,1," + strength + ") row(0,0,1) ";
            int kinds = 0;
            for (int kind = 1; kind <= 5; kind++) {
                kinds |= strength >= least[kind] ? 1 << kind : 0;
            }
            who(row + "set(0,0,1)", kinds);
            who(row + "set(0,0,0)", 62 - kinds);
        }
    }

    private static void who(String setup, long kinds) {
        on(setup);
        tells("who(0,0,0,1)", kinds);
    }

    private static void whoRefused() {
        sentence(23, "WHO, n ITEMS (1 to 12) of a ROW from i on. BAD: WISHER, ROW, n; NULL; PLACE.");
        on("<c2,0,20,0;k0,0,0,0,1;> row(0,0,13) set(0,12,1)");
        tells("who(0,0,0,1)", 62);
        tells("who(0,0,0,12)", 62);
        tells("who(0,0,1,12)", 0);
        tells("who(0,0,1,11)", 62);
        tells("who(0,0,12,1)", 0);
        refuse(BAD, "who(0,0,0,13)", "who(0,0,0,0)");
        refuse(PLACE, "who(0,0,2,12)", "who(0,0,13,1)", "who(0,0,-1,1)");
        on(RICH);
        beyond("who(#,0,0,1)", 0, 2, BAD);
        beyond("who(0,#,0,1)", 0, 7, BAD);
        beyond("who(0,0,0,#)", 1, 12, BAD);
        beyond("who(2,0,#,1)", 0, 2, PLACE);
        beyond("who(2,0,#,2)", 0, 1, PLACE);
        beyond("who(2,0,#,3)", 0, 0, PLACE);
        beyond("who(2,2,#,1)", 0, -1, PLACE);
        refuse(NULL, "who(0,3,0,1)", "who(2,7,0,12)", "who(0,3,-1,1)", "who(2,7,40,12)");
        refuse(BAD, "who(3,3,0,1)", "who(-1,3,0,1)", "who(0,3,0,13)", "who(0,3,0,0)", "who(0,8,0,0)");
        refuse(BAD, "who(0,0,-1,13)", "who(3,0,9,1)", "who(0,2,0,0)");
        refuse(PLACE, "who(0,0,0,4)", "who(0,0,0,12)", "who(0,0," + MAX + ",12)", "who(0,0," + MIN + ",12)");
        tells("who(0,0,1,1)", 62);
        on(STILL + " row(0,0,1)");
        refuse(BAD, "who(0,0,0,1)", "who(-1,0,0,1)", "who(0,3,0,1)");
        on("row(0,0,1) drop(1)");
        refuse(BAD, "who(0,0,0,1)", "who(0,3,0,1)", "who(0,0,5,1)", "who(0,0,0,0)", "who(0,8,0,1)");
    }

    private static void round() {
        sentence(24, "ROUND: behind how many HOURS (1 to 100) the hue, what all are TIRED, and the HOUR by 6 are first as they are behind fewer "
                + "(0: now): behind how many; behind how many fewer; NONE.");
        // NONE is beyond what a LAND can do: what all are TIRED comes again from HOUR 56 on, and the hue by six days more.
        round(STILL, 6, 0);
        round(STILL + " hours(5)", 6, 0);
        round(SWING, 6, 0);
        round(SWING + " hours(1)", 6, 0);
        round(CHAIN, 30, 24);
        round(CHAIN + " hours(23)", 7, 1);
        round(CHAIN + " hours(24)", 6, 0);
        round("<c2,0,20,1;k0,0,0,0,6;>", 26, 20);
        round("<c2,0,20,1;k0,0,0,0,6;> hours(19)", 7, 1);
        round("<c2,0,20,1;k0,0,0,0,6;> hours(20)", 6, 0);
        round("<c2,0,20,5;k0,0,0,0,6;>", 10, 4);
        round("<c2,0,20,0;k0,0,0,0,6;>", 6, 0);
        round("<c2,0,20,5;k0,0,0,0,1;>", 6, 0);
        round("<c2,0,20,5;k0,0,0,5,1;>", 11, 5);
        // Two more TIRED each day, but 20 at most.
        round("<c2,0,20,1;k0,0,0,2,4;>", 60, 54);
        // The longest that a search found: TIRED no more in another way behind some 52 HOURS, and the hue six days later.
        round("<c6,0,6,1;r3,4;r5,0;r2,0;r3,0;r2,5;r1,2;b1,2,26,5,4;w5,0,17,5,3;k2,1,21,1,2;k0,3,29,4,5;w0,5,19,0,3;k4,4,29,2,6;>", 88, 82);
        sentence(24, "ROUND: behind how many (what = 0), behind how many fewer (1); NONE. BAD; STATE: no LAND (ahead of BAD).");
        on(RICH);
        beyond("round(#)", 0, 1, BAD);
        noLand(24, "ROUND: behind how many (what = 0), behind how many fewer (1); NONE. BAD; STATE: no LAND (ahead of BAD).",
                "round(0)", "round(1)", "round(-1)", "round(2)");
    }

    private static void round(String setup, long behind, long fewer) {
        on(setup);
        tells("round(0)", behind);
        tells("round(1)", fewer);
    }

    private static void half() {
        sentence(25, "HALF: the first of the next n HOURS (1 to 60; 0 on) in which it is HALVED; NONE.");
        on(LATE_HALF);
        tells("half(60)", 59);
        tells("half(59)", NONE);
        tells("half(1)", NONE);
        on(LATE_HALF + " hours(24)*2 hours(11)");
        tells("half(1)", 0);
        tells("half(60)", 0);
        on(LATE_HALF + " hours(24)*2 hours(10)");
        tells("half(1)", NONE);
        tells("half(2)", 1);
        on("<c2,0,0,0;r0,1;k0,1,2,0,6;>");
        tells("half(60)", NONE);
        on(RICH);
        beyond("half(#)", 1, 60, BAD);
        noLand(25, "HALF; NONE. BAD; STATE: no LAND (ahead of BAD).", "half(1)", "half(0)", "half(61)");
    }

    private static void awake() {
        sentence(26, "AWAKE by p of 10 (0 to 10): each who would WISH now does so in p of 10 cases, apart: "
                + "how likely the hue goes somewhere in this HOUR: a fraction.");
        String one = "<c2,0,3,2;r0,1;k0,1,10,0,2;>";
        int[][] tenths = {{0, 1}, {1, 10}, {1, 5}, {3, 10}, {2, 5}, {1, 2}, {3, 5}, {7, 10}, {4, 5}, {9, 10}, {1, 1}};
        for (int p = 0; p <= 10; p++) {
            awake(one, p, tenths[p][0], tenths[p][1]);
        }
        awake(one + " rest(0,1)", 10, 0, 1);
        awake(one + " hours(2) wish(0,0,40)", 10, 0, 1);
        awake(SIX_ALIKE, 0, 0, 1);
        awake(SIX_ALIKE, 1, 1, 1000000);
        awake(SIX_ALIKE, 9, 531441, 1000000);
        awake(SIX_ALIKE, 10, 1, 1);
        awake(STILL, 0, 0, 1);
        awake(STILL, 10, 0, 1);
        // Two who wish alike halve it, but each of them alone has it.
        String alike = "<c3,0,0,5;r0,1;r0,2;k1,1,20,0,6;k2,2,20,0,6;>";
        awake(alike, 0, 0, 1);
        awake(alike, 1, 9, 50);
        awake(alike, 5, 1, 2);
        awake(alike, 10, 0, 1);
        // One who wishes it away and one who holds it: it goes, if the second is not awake.
        awake("<c2,0,0,0;k0,1,40,0,1;k0,0,40,0,1;>", 9, 9, 100);
        awake("<c2,0,0,0;k0,1,40,0,1;k0,0,40,0,1;>", 10, 0, 1);
        on(RICH);
        beyond("awake(#,0)", 0, 10, BAD);
        beyond("awake(#,1)", 0, 10, BAD);
        beyond("awake(0,#)", 0, 1, BAD);
        beyond("awake(10,#)", 0, 1, BAD);
        noLand(26, "AWAKE: above (what = 0), below (1). BAD; STATE: no LAND (ahead of BAD).",
                "awake(0,0)", "awake(10,1)", "awake(-1,0)", "awake(11,0)", "awake(0,-1)", "awake(0,2)");
    }

    private static void lowestTerms() {
        sentence(26, "fractions, told as two numbers in lowest terms (0 is 0 by 1)");
        awake(STILL, 5, 0, 1);
        awake(SIX_ALIKE, 0, 0, 1);
        awake(SIX_ALIKE, 2, 1, 15625);
        awake(SIX_ALIKE, 3, 729, 1000000);
        awake(SIX_ALIKE, 4, 64, 15625);
        awake(SIX_ALIKE, 5, 1, 64);
        awake(SIX_ALIKE, 10, 1, 1);
        // Any one of six has it: 1 less 9 by 10 to the 6th.
        awake("<c2,0,0,0;k0,1,40,0,1;k0,1,40,0,1;k0,1,40,0,1;k0,1,40,0,1;k0,1,40,0,1;k0,1,40,0,1;>", 1, 468559, 1000000);
        awake("<c2,0,0,0;k0,1,40,0,1;k0,1,40,0,1;k0,1,40,0,1;k0,1,40,0,1;k0,1,40,0,1;k0,1,40,0,1;>", 5, 63, 64);
    }

    private static void awake(String setup, int p, long above, long below) {
        on(setup);
        tells("awake(" + p + ",0)", above);
        tells("awake(" + p + ",1)", below);
    }

    private static void drawn() {
        sentence(27, "HOURS of n (0 to 60) by a SEED (X at first): ahead of each X becomes the rest of (X times 16807) by 2147483647;");
        // Each HOUR the one wisher has the hue where X by 6 tells.
        for (int seed : new int[] {1, 2, 3, 999998, 999999}) {
            long x = seed;
            long at = 0;
            int went = 0;
            for (int n = 0; n <= 60; n++) {
                on("<c6,0,0,0;k0,0,40,0,6;>");
                gives("drawn(" + n + "," + seed + ",0)", at);
                gives("drawn(" + n + "," + seed + ",1)", went);
                x = x * 16807 % 2147483647L;
                went += x % 6 == at ? 0 : 1;
                at = x % 6;
            }
        }
        // 16807, the first X by 1, leaves 1 by 2, 3 and 6: the second of two wishes FOR 1; no wisher but that.
        on("<c3,0,0,0;k0,0,0,0,6;k0,0,30,0,6;>");
        tells("drawn(1,1,0)", 1);
        on("<c3,0,0,0;k0,0,9,0,6;k0,0,20,0,6;>");
        tells("drawn(1,1,0)", 0);
        sentence(27, "(none: nothing)");
        on(STILL);
        tells("drawn(60,1,0)", 2);
        tells("drawn(60,999999,1)", 0);
        sentence(27, "how often it went in these.");
        on("<c2,0,0,0;k0,1,40,0,1;> hours(1)");
        tells("drawn(0,1,0)", 1);
        tells("drawn(0,1,1)", 0);
        tells("drawn(5,1,1)", 0);
    }

    private static void drawnRefused() {
        sentence(27, "HOURS by a SEED (1 to 999999): where (what = 0), how often (1). BAD; STATE: no LAND (ahead of BAD).");
        on(RICH);
        for (int what = 0; what < 2; what++) {
            beyond("drawn(#,1," + what + ")", 0, 60, BAD);
            beyond("drawn(#,999999," + what + ")", 0, 60, BAD);
            beyond("drawn(0,#," + what + ")", 1, 999999, BAD);
            beyond("drawn(60,#," + what + ")", 1, 999999, BAD);
        }
        beyond("drawn(0,1,#)", 0, 1, BAD);
        beyond("drawn(60,999999,#)", 0, 1, BAD);
        noLand(27, "HOURS by a SEED (1 to 999999): where (what = 0), how often (1). BAD; STATE: no LAND (ahead of BAD).",
                "drawn(0,1,0)", "drawn(-1,1,0)", "drawn(61,1,0)", "drawn(0,0,0)", "drawn(0,1000000,0)", "drawn(0,1,-1)", "drawn(0,1,2)");
    }

    /** Without a LAND each of these is refused, whatever else is wrong with it. */
    private static void noLand(int promise, String words, String... calls) {
        sentence(promise, words);
        refuse(STATE, calls);
        on("<c> row(0,0,3) drop(1)");
        refuse(STATE, calls);
    }

    public static void main(String[] args) {
        ahead();
        comes();
        visits();
        fewest();
        fewestRefused();
        hard();
        stolen();
        seenItems();
        seenHours();
        seenRefused();
        kindsBySeen();
        whoRefused();
        round();
        half();
        awake();
        lowestTerms();
        drawn();
        drawnRefused();
        finish("ForetoldBoundsTest");
    }
}
