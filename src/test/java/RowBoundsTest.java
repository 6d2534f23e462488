/** The bounds of ROWS: promises 2 to 5. */
public final class RowBoundsTest extends Bounds {
    private static final int MAX = Integer.MAX_VALUE, MIN = Integer.MIN_VALUE;
    private static final String FIVE = "row(0,0,5) set(0,1,1) set(0,2,2) set(0,3,3) set(0,4,4) row(1,0,3) ";

    private static void missingAtFirst() {
        sentence(2, "ROWS 0 .. 7 are missing (at first)");
        gives("count(0)", 0);
        for (int row = 0; row < 8; row++) {
            gives("drop(" + row + ")", NULL);
            gives("set(" + row + ",0,0)", NULL);
            gives("copy(" + row + ",0," + row + ",0,0)", NULL);
            run("row(" + row + ",0,1)", 1, "count(0)", 1, "drop(" + row + ")", 1, "count(0)", 0);
        }
        on("row(0,0,1) row(1,0,1) row(2,0,1) row(3,0,1) row(4,0,1) row(5,0,1) row(6,0,1)");
        run("row(7,0,1)", 1, "count(0)", 8, "row(7,1,2)", 2, "count(0)", 8);
    }

    private static void rowNumbers() {
        sentence(2, "BAD: ROW, LANE, n above 40; SIZE.");
        on(RICH);
        beyond("row(#,0,1)", 0, 7, BAD);
        beyond("row(#,0,0)", 0, 7, BAD);
        beyond("row(#,2,40)", 0, 7, BAD);
    }

    private static void lanes() {
        sentence(2, "have a LANE (0 bytes, 1 shorts, 2 ints)");
        run("row(0,0,1)", 1, "set(0,0,200)", -56);
        run("row(0,1,1)", 1, "set(0,0,200)", 200, "set(0,0,40000)", -25536);
        run("row(0,2,1)", 1, "set(0,0,40000)", 40000, "set(0,0,100000)", 100000);
        on(RICH);
        beyond("row(0,#,1)", 0, 2, BAD);
        beyond("row(3,#,1)", 0, 2, BAD);
    }

    private static void items() {
        sentence(2, "0 to 40 ITEMS, 0 at first");
        run("row(3,0,0)", 0, "status()", 0, "count(0)", 1, "set(3,0,1)", PLACE, "drop(3)", 0);
        run("row(3,0,1)", 1, "set(3,0,1)", 1, "set(3,1,1)", PLACE, "drop(3)", 1);
        run("row(3,0,39)", 39, "set(3,38,1)", 1, "set(3,39,1)", PLACE, "drop(3)", 39);
        for (int lane = 0; lane < 3; lane++) {
            run("row(3," + lane + ",40)", 40, "status()", 0, "set(3,39,1)", 1, "set(3,40,1)", PLACE, "drop(3)", 40);
            items("row(3," + lane + ",40)", 3, new int[40]);
        }
        on(RICH);
        refuse(BAD, "row(3,0,41)", "row(3,2," + MAX + ")", "row(0,0,41)", "row(0,1," + MAX + ")");
        refuse(SIZE, "row(3,0,-1)", "row(3,2," + MIN + ")", "row(0,0,-1)", "row(0,1," + MIN + ")");
    }

    private static void inPlace() {
        sentence(2, "A ROW of a LANE with n ITEMS, in place of what is there: n.");
        on("row(0,2,40) set(0,0,5) set(0,1,4) set(0,39,3)");
        items("row(0,0,40)", 0, new int[40]);
        items("row(0,2,40)", 0, new int[40]);
        items("row(0,2,1) row(0,2,40)", 0, new int[40]);
        items("row(0,2,0) row(0,2,2)", 0, 0, 0);
        items("drop(0) row(0,2,2)", 0, 0, 0);
        run("row(0,0,0)", 0, "set(0,0,1)", PLACE, "count(0)", 1);
        run("row(0,0,2)", 2, "set(0,1,300)", 44, "set(0,2,1)", PLACE, "count(0)", 1);
    }

    private static void rowRefusals() {
        sentence(2, "BAD: ROW, LANE, n above 40; SIZE.");
        on(RICH);
        refuse(BAD, "row(8,0,-1)", "row(-1,0,-1)", "row(0,3,-1)", "row(0,-1,-1)", "row(8,3,41)", "row(3,3," + MIN + ")");
    }

    private static void lowestBits() {
        sentence(3, "ITEM i becomes v, its lowest bits, as many as the LANE has (read with their sign)");
        int[] values = {0, 1, -1, MAX, MIN, 127, 128, -128, -129, 255, 256, 257, 32767, 32768, -32768, -32769, 65535, 65536, 65537};
        int[] bytes = {0, 1, -1, -1, 0, 127, -128, -128, 127, -1, 0, 1, -1, 0, 0, -1, -1, 0, 1};
        int[] shorts = {0, 1, -1, -1, 0, 127, 128, -128, -129, 255, 256, 257, 32767, -32768, -32768, 32767, -1, 0, 1};
        for (int k = 0; k < values.length; k++) {
            on("row(0,0,2) row(1,1,2) row(2,2,2)");
            gives("set(0,1," + values[k] + ")", bytes[k]);
            gives("set(1,1," + values[k] + ")", shorts[k]);
            gives("set(2,1," + values[k] + ")", values[k]);
        }
        items("set(0,1,5)", 0, 0, 5);
        items("set(0,1,261)", 0, 0, 5);
        items("set(0,0,255)", 0, -1, 0);
        items("set(0,0,127)", 0, 99, 0);
        items("set(1,1,261)", 1, 0, 99);
        items("set(1,1,65541)", 1, 0, 5);
        items("set(1,0,65535)", 1, -1, 0);
        items("set(2,1,65541)", 2, 0, 99);
        items("set(2,0,65535)", 2, 99, 0);
        items("set(2,0,-1)", 2, -1, 0);
        items("set(2,0," + MIN + ")", 2, 99, 0);
    }

    private static void setRefusals() {
        sentence(3, "BAD: ROW; NULL; PLACE.");
        on(RICH);
        beyond("set(#,0,0)", 0, 7, BAD);
        refuse(BAD, "set(8,-1,0)", "set(-1,40,0)");
        refuse(NULL, "set(3,0,0)", "set(7,39,0)", "set(3,-1,0)", "set(7,40,0)", "set(3," + MAX + ",0)");
        run("set(0,0,7)", 7, "status()", 0, "set(0,2,7)", 7, "status()", 0);
        beyond("set(0,#,7)", 0, 2, PLACE);
        beyond("set(2,#,7)", 0, -1, PLACE);
        on("row(6,1,40)");
        run("set(6,0,7)", 7, "set(6,39,8)", 8, "status()", 0);
        beyond("set(6,#,7)", 0, 39, PLACE);
    }

    private static void copies() {
        sentence(4, "n ITEMS of a from i on come to b from j on, as they were ahead: n.");
        on(FIVE);
        run("copy(0,1,1,0,2)", 2, "status()", 0);
        items("copy(0,1,1,0,2)", 1, 1, 2, 0);
        items("copy(0,1,1,0,2)", 0, 0, 1, 2, 3, 4);
        items("copy(0,2,1,0,3)", 1, 2, 3, 4);
        items("copy(0,4,1,2,1)", 1, 0, 0, 4);
        items("copy(0,5,1,3,0)", 1, 0, 0, 0);
        items("copy(0,0,0,1,4)", 0, 0, 0, 1, 2, 3);
        items("copy(0,1,0,0,4)", 0, 1, 2, 3, 4, 4);
        items("copy(0,0,0,0,5)", 0, 0, 1, 2, 3, 4);
        items("copy(0,3,0,1,2)", 0, 0, 3, 4, 3, 4);
        on("row(0,2,40) set(0,0,5) set(0,39,4) row(1,2,40)");
        run("copy(0,0,1,0,40)", 40, "status()", 0);
        items("copy(0,0,1,0,40) set(1,0,3)", 1, 3, 0, 0);
        run("copy(0,0,1,0,40)", 40, "copy(1,39,0,0,1)", 1, "drop(1)", 40);
        items("copy(0,0,1,0,40) copy(1,39,0,1,1)", 0, 5, 4, 0);
    }

    private static void copyEnds() {
        sentence(4, "PLACE (i, j, n below 0, or beyond an end)");
        on(RICH);
        run("copy(0,0,4,0,2)", 2, "copy(0,1,4,0,2)", 2, "copy(4,0,0,1,2)", 2, "copy(0,2,4,1,1)", 1, "status()", 0);
        run("copy(0,3,4,2,0)", 0, "status()", 0, "copy(0,0,4,0,0)", 0, "copy(2,0,2,0,0)", 0, "copy(0,3,2,0,0)", 0, "status()", 0);
        beyond("copy(0,#,4,0,1)", 0, 2, PLACE);
        beyond("copy(4,0,0,#,1)", 0, 2, PLACE);
        beyond("copy(0,0,4,0,#)", 0, 2, PLACE);
        beyond("copy(4,0,0,0,#)", 0, 2, PLACE);
        beyond("copy(0,#,4,0,0)", 0, 3, PLACE);
        beyond("copy(4,0,0,#,0)", 0, 3, PLACE);
        beyond("copy(2,0,2,0,#)", 0, 0, PLACE);
        refuse(PLACE, "copy(0,2,4,0,2)", "copy(4,0,0,2,2)", "copy(0,0,0,1,3)", "copy(0,1,0,0,3)", "copy(0,-1,0,-1,0)");
        refuse(PLACE, "copy(0,1,4,0," + MAX + ")", "copy(0," + MAX + ",4,0," + MAX + ")", "copy(0,0,4," + MAX + "," + MAX + ")");
        refuse(PLACE, "copy(0,1,4,1," + MIN + ")", "copy(0," + MIN + ",4,0," + MIN + ")", "copy(0,3,4,0,-1)", "copy(0,0,4,2,-1)");
    }

    private static void copyRefusals() {
        sentence(4, "BAD: ROWS; NULL; STORE; PLACE");
        on(RICH);
        beyond("copy(#,0,0,0,1)", 0, 7, BAD);
        beyond("copy(0,0,#,0,1)", 0, 7, BAD);
        refuse(BAD, "copy(8,0,3,0,1)", "copy(3,0,8,0,1)", "copy(-1,-1,1,0,1)", "copy(0,-1,8,0,1)", "copy(1,0,-1,0,-1)");
        refuse(NULL, "copy(3,0,0,0,1)", "copy(0,0,3,0,1)", "copy(3,0,7,0,0)", "copy(1,0,7,0,1)", "copy(7,0,1,0,1)");
        refuse(NULL, "copy(3,-1,0,0,1)", "copy(0,9,3,0,1)", "copy(0,0,3,0,-1)", "copy(3,0,0,0,41)");
        refuse(STORE, "copy(0,0,1,0,1)", "copy(1,0,0,0,1)", "copy(0,0,1,0,0)", "copy(1,0,2,0,0)");
        refuse(STORE, "copy(0,-1,1,0,1)", "copy(0,0,1,5,1)", "copy(0,0,1,0,-1)", "copy(1,0,0,0,41)");
        on("row(0,0,1) row(1,1,1) row(2,2,1)");
        refuse(STORE, "copy(0,0,1,0,1)", "copy(1,0,2,0,1)", "copy(2,0,0,0,1)");
        for (int row = 0; row < 3; row++) {
            gives("copy(" + row + ",0," + row + ",0,1)", 1);
        }
    }

    private static void drops() {
        sentence(5, "A ROW is missing from now on: how many ITEMS it had. BAD; NULL.");
        on(RICH);
        run("drop(0)", 3, "status()", 0, "count(0)", 3, "drop(0)", NULL, "status()", 1, "set(0,0,0)", NULL, "count(0)", 3);
        run("drop(2)", 0, "status()", 0, "count(0)", 3, "drop(2)", NULL);
        run("drop(1)", 2, "copy(1,0,0,0,0)", NULL, "copy(0,0,1,0,0)", NULL, "seen(1,0,1,0)", NULL, "who(0,1,0,1)", NULL);
        beyond("drop(#)", 0, 7, BAD);
        refuse(NULL, "drop(3)", "drop(7)");
        on("row(7,1,40)");
        run("drop(7)", 40, "count(0)", 0, "drop(7)", NULL, "row(7,0,1)", 1, "drop(7)", 1);
    }

    public static void main(String[] args) {
        missingAtFirst();
        rowNumbers();
        lanes();
        items();
        inPlace();
        rowRefusals();
        lowestBits();
        setRefusals();
        copies();
        copyEnds();
        copyRefusals();
        drops();
        finish("RowBoundsTest");
    }
}
