/** The bounds of ACTS, and of what they change: promises 9 to 15. */
public final class ActBoundsTest extends Bounds {
    /** The hue is at 1 behind HOUR 0, at 0 behind HOUR 1, and so again each six HOURS. */
    private static final String SWING = "<c2,0,0,0;r0,1;k0,1,3,0,1;k1,0,3,1,1;>";

    private static void nothingToUndo() {
        sentence(9, "The latest ACT is undone: how many can be undone yet. STATE: none.");
        refuses("undo()", STATE);
        on(SWING);
        refuses("undo()", STATE);
        run("hours(1)", 1, "undo()", 0, "undo()", STATE, "count(4)", 0);
        run("wish(0,0,1)", 103, "undo()", 0, "undo()", STATE, "wisher(0,2)", 3);
        run("rest(0,1)", 1, "undo()", 0, "undo()", STATE, "wisher(0,4)", 0);
        on(SWING + " hours(2) undo()*2");
        refuses("undo()", STATE);
        on(SWING + " hours(2) " + SWING);
        refuses("undo()", STATE);
        on(SWING + " image(0) hours(2) restore(0)");
        refuses("undo()", STATE);
        on(SWING + " rest(0,0) wish(0,2,0) hours(25) hours(0)");
        refuses("undo()", STATE);
    }

    private static void actsKept() {
        sentence(9, "ACTS (24 at most are kept, of more the oldest is forgotten;");
        on(SWING + " hours(23)");
        run("count(8)", 23, "hours(1)", 0, "count(8)", 24, "hours(1)", 1, "count(8)", 24);
        on(SWING + " hours(24)");
        run("count(8)", 24, "undo()", 23, "count(8)", 23, "count(4)", 23);
        on(SWING + " hours(24) undo()*23");
        run("count(4)", 1, "undo()", 0, "count(4)", 0, "undo()", STATE);
        on(SWING + " hours(24) hours(1) undo()*23");
        run("count(8)", 1, "count(4)", 2, "undo()", 0, "count(4)", 1, "undo()", STATE);
        on(SWING + " hours(24) hours(1) undo()*24");
        refuses("undo()", STATE);
        on(SWING + " hours(24)*3 undo()*23");
        run("undo()", 0, "count(4)", 48, "undo()", STATE);
        on(SWING + " hours(24) undo()*20 hours(24)");
        run("count(4)", 28, "count(8)", 24);
        on(SWING + " hours(24) undo()*20 hours(24) undo()*23");
        run("undo()", 0, "count(4)", 4, "undo()", STATE);
    }

    private static void oldestOfEachKind() {
        sentence(9, "ACTS (24 at most are kept, of more the oldest is forgotten;");
        on(SWING + " wish(0,0,7) hours(23) undo()*24");
        run("wisher(0,1)", 1, "wisher(0,2)", 3, "count(4)", 0, "undo()", STATE);
        on(SWING + " wish(0,0,7) hours(24) undo()*24");
        run("wisher(0,1)", 0, "wisher(0,2)", 7, "count(4)", 0, "undo()", STATE);
        on(SWING + " rest(1,1) hours(23) undo()*24");
        run("wisher(1,4)", 0, "count(4)", 0, "undo()", STATE);
        on(SWING + " rest(1,1) hours(24) undo()*24");
        run("wisher(1,4)", 1, "count(4)", 0, "undo()", STATE);
        on(SWING + " hours(1) wish(0,0,7)*23 undo()*24");
        run("count(4)", 0, "undo()", STATE);
        on(SWING + " hours(1) wish(0,0,7)*24 undo()*24");
        run("count(4)", 1, "wisher(0,2)", 3, "undo()", STATE);
    }

    private static void latestFirst() {
        sentence(9, "each can be undone, the latest first; also such by which nothing becomes another)");
        on("<c3,0,0,5;r0,1;r0,2;k0,1,20,0,6;a1,2,22,0,6;> hours(1)");
        run("count(7)", 1, "wish(1,0,0)", 222, "rest(1,1)", 1, "hours(1)", 1, "wisher(0,3)", 10, "wisher(1,3)", 4, "count(6)", 1,
                "place(0,1)", 1, "undo()", 3, "count(5)", 0, "count(6)", 0, "place(0,1)", 0, "wisher(0,3)", 5, "wisher(1,3)", 5,
                "wisher(1,4)", 1, "undo()", 2, "wisher(1,4)", 0, "wisher(1,1)", 0, "undo()", 1, "wisher(1,1)", 2, "wisher(1,2)", 22,
                "count(7)", 1, "undo()", 0, "count(7)", 0, "count(4)", 0, "wisher(0,3)", 0, "undo()", STATE);
        on(SWING);
        run("wish(0,1,3)", 103, "count(8)", 1, "wish(0,1,3)", 103, "count(8)", 2, "undo()", 1, "undo()", 0, "undo()", STATE);
        run("hours(2)", 0, "wish(0,1,3)", 103, "undo()", 2, "count(4)", 2, "undo()", 1, "count(4)", 1, "count(5)", 1);
    }

    private static void manyHours() {
        sentence(10, "n HOURS (1 to 24), an ACT each: where the hue is.");
        on(SWING);
        run("hours(1)", 1, "count(4)", 1, "count(8)", 1, "count(5)", 1);
        run("hours(23)", 0, "count(4)", 23, "count(8)", 23);
        run("hours(24)", 0, "count(4)", 24, "count(8)", 24, "count(6)", 8);
        on(RICH);
        beyond("hours(#)", 1, 24, BAD);
        sentence(10, "BAD; STATE: no LAND (ahead of BAD); FULL: more than 999 would be gone.");
        refuse(STATE, "hours(1)", "hours(24)", "hours(0)", "hours(25)", "hours(-1)");
        on("<c>");
        refuse(STATE, "hours(1)", "hours(0)", "hours(25)");
    }

    private static void hourIsOneMore() {
        sentence(10, "HOUR is 1 more.");
        on("<c2,0,20,0;k0,0,7,5,1;>");
        run("count(4)", 0, "hours(1)", 0, "count(4)", 1, "hours(4)", 0, "count(4)", 5, "wisher(0,5)", 7, "hours(1)", 0, "count(4)", 6,
                "wisher(0,5)", 0, "hours(5)", 0, "count(4)", 11, "wisher(0,5)", 7);
    }

    private static void hoursThatAreGone() {
        sentence(10, "FULL: more than 999 would be gone.");
        on(SWING + " hours(24)*40 hours(15)");
        run("count(4)", 975, "hours(24)", 0, "count(4)", 999, "count(8)", 24, "hours(1)", FULL, "count(4)", 999);
        on(SWING + " hours(24)*40 hours(16)");
        run("count(4)", 976, "hours(23)", 0, "count(4)", 999, "hours(1)", FULL);
        refuses("hours(24)", FULL);
        on(SWING + " hours(24)*41 hours(14)");
        run("count(4)", 998, "hours(1)", 0, "count(4)", 999);
        refuse(FULL, "hours(2)", "hours(24)");
        on(SWING + " hours(24)*41 hours(15)");
        refuse(FULL, "hours(1)", "hours(24)");
        beyond("hours(#)", 1, 24, BAD);
        run("undo()", 23, "hours(2)", FULL, "hours(1)", 0, "hours(1)", FULL);
        tells("ahead(60,1)", 354);
        tells("comes(1,4)", 4);
        on(SWING + " image(0) hours(24)*41 hours(15) restore(0)");
        run("hours(24)", 0, "count(4)", 24);
        on(SWING + " hours(24)*41 hours(15) " + SWING);
        run("hours(24)", 0, "count(4)", 24);
    }

    private static void pulls() {
        sentence(10, "PULL of a PLACE: WISHES for it, added, less twice FAR to it from where the hue is; where that is, HOLD more.");
        on("<c6,1,3,0;r0,1;r1,2;r2,3;r3,4;k0,0,4,0,1;k0,0,5,0,1;k0,1,6,0,1;k0,4,7,0,1;k0,5,8,0,1;k0,3,9,1,1;>");
        tells("place(0,0)", 7);
        tells("place(1,0)", 9);
        tells("place(2,0)", -2);
        tells("place(3,0)", -4);
        tells("place(4,0)", 1);
        tells("place(5,0)", -10);
    }

    private static void greatestPull() {
        sentence(10, "The hue goes to the PLACE with the greatest PULL; of several, if where it is is one of them, it stays; else it is HALVED: "
                + "it stays, too.");
        goes("c2,0,0,0;r0,1;k0,1,1,0,6;", 0, 0);
        goes("c2,0,0,0;r0,1;k0,1,2,0,6;", 0, 0);
        goes("c2,0,0,0;r0,1;k0,1,3,0,6;", 1, 0);
        goes("c2,0,20,0;r0,1;k0,1,21,0,6;", 0, 0);
        goes("c2,0,20,0;r0,1;k0,1,22,0,6;", 0, 0);
        goes("c2,0,20,0;r0,1;k0,1,23,0,6;", 1, 0);
        goes("c2,1,0,0;k0,0,18,0,6;", 1, 0);
        goes("c2,1,0,0;k0,0,19,0,6;", 0, 0);
        goes("c3,0,0,0;r0,1;r0,2;k0,1,3,0,6;k0,2,3,0,6;", 0, 1);
        goes("c3,0,0,0;r0,1;r0,2;k0,1,3,0,6;k0,2,4,0,6;", 2, 0);
        goes("c3,0,0,0;r0,1;r0,2;k0,1,4,0,6;k0,2,3,0,6;", 1, 0);
        goes("c3,0,0,0;r0,1;r0,2;k0,1,2,0,6;k0,2,2,0,6;", 0, 0);
        goes("c3,0,0,0;r0,1;r0,2;k0,1,2,0,6;k0,2,3,0,6;", 2, 0);
        goes("c3,2,1,0;r2,1;r0,2;k0,1,3,0,6;k0,0,3,0,6;", 2, 0);
        goes("c3,2,0,0;r2,1;r0,2;k0,1,3,0,6;k0,0,3,0,6;", 2, 1);
        goes("c4,1,0,0;k0,0,20,0,6;k0,2,20,0,6;k0,3,20,0,6;", 1, 1);
        goes("c4,1,0,0;k0,0,20,0,6;k0,2,20,0,6;k0,3,21,0,6;", 3, 0);
        goes("c4,1,0,0;k0,0,21,0,6;k0,2,20,0,6;k0,3,20,0,6;", 0, 0);
        goes("c4,1,0,0;k0,0,20,0,6;k0,2,21,0,6;k0,3,20,0,6;", 2, 0);
        goes("c4,1,0,0;k0,0,20,0,6;k0,2,19,0,6;k0,3,20,0,6;", 1, 1);
    }

    /** Behind an HOUR of this land the hue is there, and was HALVED so often. */
    private static void goes(String land, int to, int halved) {
        int from = land.charAt(3) - '0';
        on("<" + land + ">");
        run("hours(1)", to, "count(5)", to, "count(6)", to == from ? 0 : 1, "count(7)", halved, "count(4)", 1,
                "place(" + from + ",1)", to == from ? 0 : 1, "place(" + to + ",1)", 0);
    }

    private static void milk() {
        sentence(10, "Where it goes from is MILK till it is there again.");
        on("<c3,0,0,0;k0,1,20,0,1;k0,2,20,1,1;k0,0,20,2,1;>");
        run("place(0,1)", 0, "hours(1)", 1, "place(0,1)", 1, "place(1,1)", 0, "place(2,1)", 0, "hours(1)", 2, "place(0,1)", 1,
                "place(1,1)", 1, "place(2,1)", 0, "hours(1)", 0, "place(0,1)", 0, "place(1,1)", 1, "place(2,1)", 1, "hours(3)", 0,
                "place(0,1)", 0, "place(1,1)", 1, "place(2,1)", 1, "hours(1)", 1, "place(0,1)", 1, "place(1,1)", 0, "place(2,1)", 1);
    }

    private static void mostTired() {
        sentence(10, "Then who WISHES in this HOUR (by a WISH of 0, too) is TIRED by TIRES more (20 at most), all others by 1 less (0 at least).");
        on("<c2,0,20,5;k0,0,0,0,6;>");
        run("hours(3)", 0, "wisher(0,3)", 15, "hours(1)", 0, "wisher(0,3)", 20, "hours(1)", 0, "wisher(0,3)", 20);
        on("<c2,0,20,3;k0,0,0,0,6;>");
        run("hours(6)", 0, "wisher(0,3)", 18, "hours(1)", 0, "wisher(0,3)", 20, "hours(1)", 0, "wisher(0,3)", 20);
        on("<c2,0,20,1;k0,0,0,0,6;>");
        run("hours(19)", 0, "wisher(0,3)", 19, "hours(1)", 0, "wisher(0,3)", 20, "hours(1)", 0, "wisher(0,3)", 20);
        on("<c2,0,20,0;k0,0,0,0,6;>");
        run("hours(24)", 0, "wisher(0,3)", 0);
        on("<c2,0,20,2;k0,0,0,0,1;>");
        run("hours(1)", 0, "wisher(0,3)", 2, "hours(1)", 0, "wisher(0,3)", 1, "hours(1)", 0, "wisher(0,3)", 0, "hours(1)", 0,
                "wisher(0,3)", 0, "hours(2)", 0, "wisher(0,3)", 0, "hours(1)", 0, "wisher(0,3)", 2);
    }

    private static void whoIsTired() {
        sentence(10, "Then who WISHES in this HOUR (by a WISH of 0, too) is TIRED by TIRES more (20 at most), all others by 1 less (0 at least).");
        on("<c2,0,20,4;t0,1,30,0,1;a0,1,9,0,1;k0,0,0,0,1;b0,0,0,0,1;w0,0,30,0,1;k0,0,30,1,1;>");
        run("wisher(0,5)", 0, "wisher(1,5)", 0, "wisher(2,5)", 0, "wisher(3,5)", 0, "wisher(4,5)", 30, "wisher(5,5)", 0, "hours(1)", 0,
                "wisher(0,3)", 4, "wisher(1,3)", 4, "wisher(2,3)", 4, "wisher(3,3)", 4, "wisher(4,3)", 0, "wisher(5,3)", 0);
        on("<c2,0,20,4;k0,0,0,0,6;k0,0,0,0,6;> hours(2) rest(0,1)");
        run("wisher(0,3)", 8, "hours(1)", 0, "wisher(0,3)", 7, "wisher(1,3)", 12, "hours(7)", 0, "wisher(0,3)", 0, "hours(1)", 0,
                "wisher(0,3)", 0, "rest(0,0)", 0, "hours(1)", 0, "wisher(0,3)", 4);
        sentence(13, "of a widow so, but she is TIRED 0 always");
        on("<c2,0,20,5;w0,0,30,0,6;>");
        run("wisher(0,3)", 0, "hours(24)", 0, "wisher(0,3)", 0, "wisher(0,5)", 30);
    }

    private static void wishingHours() {
        sentence(13, "A wisher WISHES in HOURS that by 6 leave FROM, or one of the LONG less 1 next ones (by 6, too), if it does not rest.");
        for (int from = 0; from < 6; from++) {
            for (int many = 1; many <= 6; many++) {
                for (int hour = 0; hour <= 13; hour++) {
                    boolean wishes = false;
                    for (int next = 0; next < many; next++) {
                        wishes |= (from + next) % 6 == hour % 6;
                    }
                    String land = "<c2,0,20,0;k0,0,7," + from + "," + many + ";>";
                    on(land + (hour == 0 ? "" : " hours(" + hour + ")"));
                    gives("wisher(0,5)", wishes ? 7 : 0);
                    gives("place(0,0)", wishes ? 27 : 20);
                    run("rest(0,1)", 1, "wisher(0,5)", 0, "place(0,0)", 20, "rest(0,0)", 0, "wisher(0,5)", wishes ? 7 : 0);
                }
            }
        }
    }

    private static void wishesOfTheGrown() {
        sentence(13, "of one grown STRENGTH less FAR from HOME to what it wishes FOR, less what it is TIRED (0 at least)");
        wishes("c4,3,20,3;r0,1;r1,2;a0,2,#,0,6;", 0, new int[] {0, 1, 2, 3, 40}, 0, 0, 0, 1, 38);
        wishes("c4,3,20,3;r0,1;r1,2;a0,2,#,0,6;", 1, new int[] {0, 4, 5, 6, 40}, 0, 0, 0, 1, 35);
        wishes("c4,3,20,3;r0,1;r1,2;a0,2,#,0,6;", 9, new int[] {0, 21, 22, 23, 40}, 0, 0, 0, 1, 18);
        wishes("c4,3,20,3;r0,1;r1,2;a0,3,#,0,6;", 0, new int[] {0, 8, 9, 10, 40}, 0, 0, 0, 1, 31);
        wishes("c4,3,20,3;r0,1;r1,2;a1,1,#,0,6;", 0, new int[] {0, 1, 40}, 0, 1, 40);
        sentence(13, "of a widow so, but she is TIRED 0 always");
        wishes("c4,3,20,3;r0,1;r1,2;w0,2,#,0,6;", 0, new int[] {0, 1, 2, 3, 40}, 0, 0, 0, 1, 38);
        wishes("c4,3,20,3;r0,1;r1,2;w0,2,#,0,6;", 9, new int[] {0, 1, 2, 3, 40}, 0, 0, 0, 1, 38);
        sentence(13, "of a thief twice what it is of one grown, if the HOUR by 6 leaves 4 or 5, else 0");
        int[] hours = {0, 0, 0, 0, 1, 1, 0, 0, 0, 0, 1, 1, 0};
        for (int hour = 0; hour < hours.length; hour++) {
            int by = hours[hour];
            wishes("c4,3,20,0;r0,1;r1,2;t0,2,#,0,6;", hour, new int[] {0, 1, 2, 3, 40}, 0, 0, 0, 2 * by, 76 * by);
        }
        wishes("c4,3,20,2;r0,1;r1,2;t0,2,#,0,6;", 4, new int[] {9, 10, 11, 40}, 0, 0, 2, 60);
        wishes("c4,3,20,2;r0,1;r1,2;t0,2,#,0,6;", 5, new int[] {11, 12, 13, 40}, 0, 0, 2, 56);
    }

    private static void wishesOfChildren() {
        sentence(13, "of a child STRENGTH, less what it is TIRED (0 at least)");
        wishes("c4,3,20,3;r0,1;k0,2,#,0,6;", 0, new int[] {0, 1, 40}, 0, 1, 40);
        wishes("c4,3,20,3;r0,1;k0,2,#,0,6;", 1, new int[] {0, 2, 3, 4, 40}, 0, 0, 0, 1, 37);
        wishes("c4,3,20,3;r0,1;k0,2,#,0,6;", 9, new int[] {0, 19, 20, 21, 40}, 0, 0, 0, 1, 20);
        sentence(13, "of a bureau so, and 2 more for each HOUR LONG is more than 1.");
        for (int many = 1; many <= 6; many++) {
            int more = 2 * (many - 1);
            wishes("c4,3,20,3;r0,1;b0,2,#,0," + many + ";", 0, new int[] {0, 1, 40}, more, 1 + more, 40 + more);
        }
        wishes("c4,3,20,3;r0,1;b0,2,#,0,6;", 1, new int[] {0, 2, 3, 4, 40}, 10, 10, 10, 11, 47);
        wishes("c4,3,20,3;r0,1;b0,2,#,0,6;", 9, new int[] {0, 19, 20, 21, 40}, 10, 10, 10, 11, 30);
    }

    /** The WISH now, behind so many HOURS, by each STRENGTH in place of #. */
    private static void wishes(String land, int hours, int[] strengths, int... want) {
        for (int k = 0; k < strengths.length; k++) {
            on("<" + land.replace("#", Integer.toString(strengths[k])) + ">" + (hours == 0 ? "" : " hours(" + hours + ")"));
            tells("wisher(0,5)", want[k]);
        }
    }

    private static void wishesChanged() {
        sentence(11, "A wisher wishes FOR a PLACE, with a STRENGTH (0 to 40): 100 times what it wished FOR, and STRENGTH, as they were. BAD.");
        on(RICH);
        run("wish(0,0,0)", 307, "wisher(0,1)", 0, "wisher(0,2)", 0, "wisher(0,0)", 0, "wisher(0,3)", 2, "count(8)", 5, "status()", 1);
        run("wish(2,3,40)", 110, "wisher(2,1)", 3, "wisher(2,2)", 40, "wisher(2,0)", 2, "wisher(2,4)", 1, "wish(2,0,0)", 340, "count(8)", 6);
        beyond("wish(#,0,0)", 0, 2, BAD);
        beyond("wish(0,#,0)", 0, 3, BAD);
        beyond("wish(0,0,#)", 0, 40, BAD);
        on("<c6,0,0,0;k0,5,40,0,1;>");
        run("wish(0,5,40)", 540, "wish(0,0,0)", 540, "wish(0,0,0)", 0);
        on("<c6,0,0,0;>");
        refuse(BAD, "wish(0,0,0)", "wish(-1,0,0)");
        on(NOTHING);
        refuse(BAD, "wish(0,0,0)", "wish(-1,-1,-1)");
    }

    private static void rests() {
        sentence(12, "A wisher rests (1), or does not (0): how many rest. BAD; STATE: it is so.");
        on(RICH);
        run("rest(0,1)", 2, "rest(1,1)", 3, "rest(0,0)", 2, "rest(1,0)", 1, "rest(2,0)", 0, "count(8)", 9, "status()", 1);
        refuse(STATE, "rest(0,0)", "rest(1,0)", "rest(2,1)");
        beyond("rest(#,0)", 0, 2, BAD);
        beyond("rest(#,1)", 0, 2, BAD);
        beyond("rest(0,#)", 0, 1, BAD);
        beyond("rest(2,#)", 0, 1, BAD);
        on("<c2,0,0,0;k0,0,0,0,1;k0,0,0,0,1;k0,0,0,0,1;k0,0,0,0,1;k0,0,0,0,1;k0,0,0,0,1;>");
        run("rest(5,1)", 1, "rest(0,1)", 2, "rest(1,1)", 3, "rest(2,1)", 4, "rest(3,1)", 5, "rest(4,1)", 6, "rest(5,1)", STATE, "rest(5,0)", 5);
        on(NOTHING);
        refuse(BAD, "rest(0,0)", "rest(0,1)", "rest(-1,2)");
    }

    private static void looksAtWishers() {
        sentence(13, "Of a wisher: 0 HOME, 1 FOR, 2 STRENGTH, 3 what it is TIRED, 4 whether it rests (1, 0), 5 WISH now (0: none). BAD.");
        on(RICH);
        int[][] want = {{0, 3, 7, 2, 0, 2}, {3, 3, 9, 0, 0, 9}, {2, 1, 10, 0, 1, 0}};
        for (int one = 0; one < 3; one++) {
            for (int what = 0; what < 6; what++) {
                tells("wisher(" + one + "," + what + ")", want[one][what]);
            }
        }
        beyond("wisher(#,0)", 0, 2, BAD);
        beyond("wisher(#,5)", 0, 2, BAD);
        beyond("wisher(0,#)", 0, 5, BAD);
        beyond("wisher(2,#)", 0, 5, BAD);
        on("<c2,0,0,0;>");
        refuse(BAD, "wisher(0,0)", "wisher(-1,0)", "wisher(0,6)");
    }

    private static void looksAtPlaces() {
        sentence(14, "Of a PLACE: 0 PULL now, 1 whether it is MILK (1, 0), 2 where roads lead (bits). BAD; STATE: no LAND (ahead of BAD).");
        on(RICH);
        int[][] want = {{-4, 1, 2}, {-2, 0, 5}, {2, 0, 10}, {9, 0, 4}};
        for (int place = 0; place < 4; place++) {
            for (int what = 0; what < 3; what++) {
                tells("place(" + place + "," + what + ")", want[place][what]);
            }
        }
        beyond("place(#,0)", 0, 3, BAD);
        beyond("place(#,2)", 0, 3, BAD);
        beyond("place(0,#)", 0, 2, BAD);
        beyond("place(3,#)", 0, 2, BAD);
        on(NOTHING);
        refuse(STATE, "place(0,0)", "place(-1,0)", "place(6,0)", "place(0,-1)", "place(0,3)", "place(9,9)");
    }

    private static void looksAtWays() {
        sentence(15, "FAR from PLACE to PLACE: the fewest roads; 9, if there is no way.");
        on("<c6,0,0,0;r5,4;r4,3;r3,2;r2,1;r1,0;>");
        for (int a = 0; a < 6; a++) {
            for (int b = 0; b < 6; b++) {
                gives("far(" + a + "," + b + ")", Math.abs(a - b));
            }
        }
        on("<c6,0,0,0;r5,4;r4,3;r3,2;r2,1;r1,0;r0,5;>");
        for (int a = 0; a < 6; a++) {
            for (int b = 0; b < 6; b++) {
                gives("far(" + a + "," + b + ")", Math.min(Math.abs(a - b), 6 - Math.abs(a - b)));
            }
        }
        on("<c6,0,0,0;r0,1;r1,2;r3,4;>");
        int[][] want = {{0, 1, 2, 9, 9, 9}, {1, 0, 1, 9, 9, 9}, {2, 1, 0, 9, 9, 9}, {9, 9, 9, 0, 1, 9}, {9, 9, 9, 1, 0, 9}, {9, 9, 9, 9, 9, 0}};
        for (int a = 0; a < 6; a++) {
            for (int b = 0; b < 6; b++) {
                gives("far(" + a + "," + b + ")", want[a][b]);
            }
        }
        sentence(15, "FAR. BAD; STATE: no LAND (ahead of BAD).");
        refuse(STATE, "far(0,0)", "far(-1,0)", "far(0,6)", "far(9,9)");
        on(RICH);
        tells("far(0,3)", 3);
        tells("far(3,3)", 0);
        beyond("far(#,0)", 0, 3, BAD);
        beyond("far(3,#)", 0, 3, BAD);
    }

    public static void main(String[] args) {
        nothingToUndo();
        actsKept();
        oldestOfEachKind();
        latestFirst();
        manyHours();
        hourIsOneMore();
        hoursThatAreGone();
        pulls();
        greatestPull();
        milk();
        mostTired();
        whoIsTired();
        wishingHours();
        wishesOfTheGrown();
        wishesOfChildren();
        wishesChanged();
        rests();
        looksAtWishers();
        looksAtPlaces();
        looksAtWays();
        finish("ActBoundsTest");
    }
}
