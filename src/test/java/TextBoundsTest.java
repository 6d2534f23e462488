/** The bounds of the tape, of its texts and of their FAULTS: promises 1, 6, 7 and 8. */
public final class TextBoundsTest extends Bounds {
    private static final String LAW = "c3,0,0,0;";
    private static final String TEN_ROADS = "r0,1;r0,2;r0,3;r0,4;r1,2;r1,3;r1,4;r2,3;r2,4;r3,4;";
    private static final String CHILD = "k0,0,0,0,1;", LONGER_CHILD = "k0,0,00,00,01;";
    private static final String SIX = CHILD + CHILD + CHILD + CHILD + CHILD + CHILD;

    private static void noLand() {
        sentence(1, "No LAND.");
        run("count(0)", 0, "count(1)", 0, "count(2)", 0, "count(3)", 0, "count(4)", 0, "count(5)", -1, "count(6)", 0,
                "count(7)", 0, "count(8)", 0, "count(9)", 0, "fault()", 0, "status()", 0, "trace(0)", NONE);
        refuse(STATE, "undo()", "hours(1)", "place(0,0)", "far(0,0)", "ahead(0,0)", "comes(0,1)", "visits(0)", "fewest(0,1,0)");
        refuse(STATE, "stolen(0,0,1)", "seen(0,0,1,0)", "round(0)", "half(1)", "awake(0,0)", "drawn(0,1,0)", "image(0)", "restore(0)");
        refuse(BAD, "wish(0,0,0)", "rest(0,1)", "wisher(0,0)", "hard(0,1)", "who(0,0,0,1)", "kind(0)", "as(0,0)", "ask(0,0)");
    }

    private static void bytes() {
        sentence(6, "A byte (0 to 255) comes behind the tape: how many it has. BAD; FULL.");
        run("feed(0)", 1, "feed(255)", 2, "count(9)", 2, "status()", 0);
        on(RICH);
        run("feed(0)", 2, "feed(255)", 3, "count(9)", 3, "status()", 1);
        beyond("feed(#)", 0, 255, BAD);
    }

    private static void tapeIsFull() {
        sentence(6, "THE TAPE has at most 120 bytes, that come one by one");
        on("feed(99)*118");
        run("feed(0)", 119, "feed(255)", 120, "feed(99)", FULL, "feed(0)", FULL, "count(9)", 120);
        on("<c2,0,0,0;k0,0,7,0,6;> hours(1) feed(99)*120");
        refuse(FULL, "feed(0)", "feed(99)", "feed(255)");
        beyond("feed(#)", 0, 255, BAD);
        run("land()", -1000101, "fault()", 1, "count(9)", 0, "feed(99)", 1);
        String full = "c5,0,0,0;" + TEN_ROADS + LONGER_CHILD + LONGER_CHILD + CHILD + CHILD + CHILD;
        due("bytes of the longest text", full.length(), 120);
        on(NOTHING);
        reads(full, 5);
        run("<" + full + ";>", 5, "count(2)", 10, "wisher(4,0)", 0);
        // Of 121 bytes the last, a sign that is due, does not come onto the tape.
        fault(full.replace("0,0,1;k0,0,0,0,1;k0,0,0,0,1;", "0,00,1;k0,0,0,0,1;k0,0,0,0,1;"), 120, 1);
        on("<c2,0,0,0;k0,0,7,0,6;> hours(1)");
        fault("c2,0,0,0;" + "0".repeat(111), 9, 1);
    }

    private static void law() {
        sentence(7, "c PLACES , AT , HOLD , TIRES ; (2 to 6; a PLACE; 0 to 20; 0 to 5)");
        run("<c2,0,0,0;>", 0, "count(1)", 2, "place(1,2)", 0, "place(2,2)", BAD);
        run("<c6,0,0,0;>", 0, "count(1)", 6, "place(5,2)", 0, "place(6,2)", BAD);
        run("<c2,1,0,0;>", 0, "count(5)", 1);
        run("<c6,5,0,0;>", 0, "count(5)", 5);
        run("<c2,0,0,0;>", 0, "count(5)", 0, "place(0,0)", 0, "place(1,0)", -18);
        run("<c2,0,20,0;>", 0, "place(0,0)", 20, "place(1,0)", -18);
        run("<c2,0,0,0;k0,0,0,0,6;>", 1, "hours(2)", 0, "wisher(0,3)", 0);
        run("<c2,0,0,5;k0,0,0,0,6;>", 1, "hours(2)", 0, "wisher(0,3)", 10);
        on(EMPTY_TAPE);
        fault("c0,0,0,0;", 1, 2);
        fault("c1,0,0,0;", 1, 2);
        fault("c7,0,0,0;", 1, 2);
        fault("c99,0,0,0;", 1, 2);
        fault("c2,2,0,0;", 3, 2);
        fault("c6,6,0,0;", 3, 2);
        fault("c6,99,0,0;", 3, 2);
        fault("c2,0,21,0;", 5, 2);
        fault("c2,0,99,0;", 5, 2);
        fault("c2,0,0,6;", 7, 2);
        fault("c2,0,20,99;", 8, 2);
    }

    private static void roads() {
        sentence(7, "r A , B ; (PLACES, unlike, no two roads between the same; 10 at most)");
        run("<c3,0,0,0;>", 0, "count(2)", 0, "place(0,2)", 0, "place(2,2)", 0);
        run("<c3,0,0,0;r0,2;>", 0, "count(2)", 1, "place(0,2)", 4, "place(1,2)", 0, "place(2,2)", 1);
        run("<c3,0,0,0;r2,0;>", 0, "count(2)", 1, "place(0,2)", 4, "place(1,2)", 0, "place(2,2)", 1);
        run("<c3,0,0,0;r2,0;r0,1;r1,2;>", 0, "count(2)", 3, "place(0,2)", 6, "place(1,2)", 5, "place(2,2)", 3);
        on(EMPTY_TAPE);
        fault(LAW + "r3,0;", 10, 2);
        fault(LAW + "r99,0;", 10, 2);
        fault(LAW + "r0,3;", 12, 2);
        fault(LAW + "r2,99;", 12, 2);
        fault(LAW + "r0,0;", 12, 2);
        fault(LAW + "r2,2;", 12, 2);
        fault(LAW + "r0,2;r0,2;", 17, 2);
        fault(LAW + "r0,2;r2,0;", 17, 2);
        fault(LAW + "r2,0;r1,0;r0,2;", 22, 2);
        fault("c2,0,0,0;r0,1;r1,0;", 17, 2);
    }

    private static void roomForRoads() {
        sentence(7, "3 a road, a wisher more than there is room for (its letter)");
        String nine = "c5,0,0,0;" + TEN_ROADS.substring(0, 45);
        String ten = "c5,0,0,0;" + TEN_ROADS;
        run("<" + nine + ">", 0, "count(2)", 9, "place(4,2)", 7);
        run("<" + ten + ">", 0, "count(2)", 10, "place(4,2)", 15);
        on(EMPTY_TAPE);
        fault(ten + "r0,1;", 59, 3);
        fault(ten + "r0,0;", 59, 3);
        fault(ten + "r9,0;", 59, 3);
        fault(ten + "r", 59, 3);
        fault("c6" + ten.substring(2) + "r0,5;", 59, 3);
        // What is no road is no road too many.
        fault(ten + "c", 59, 1);
        fault(ten + "0", 59, 1);
        fault(ten + "k0,5,0,0,1;", 62, 2);
        reads(ten + CHILD, 1);
    }

    private static void wishers() {
        sentence(7, "SORT HOME , FOR , STRENGTH , FROM , LONG ;");
        String[] sorts = {"a", "w", "t", "k", "b"};
        for (int k = 0; k < sorts.length; k++) {
            on(NOTHING);
            run("<c3,0,0,0;" + sorts[k] + "0,0,0,0,1;>", 1, "kind(0)", k + 1, "wisher(0,0)", 0, "wisher(0,1)", 0, "wisher(0,2)", 0);
            run("<c3,0,0,0;" + sorts[k] + "2,2,40,5,6;>", 1, "kind(0)", k + 1, "wisher(0,0)", 2, "wisher(0,1)", 2, "wisher(0,2)", 40);
            on(EMPTY_TAPE);
            fault(LAW + sorts[k] + "3,0,0,0,1;", 10, 2);
            fault(LAW + sorts[k] + "0,3,0,0,1;", 12, 2);
            fault(LAW + sorts[k] + "0,0,41,0,1;", 14, 2);
            fault(LAW + sorts[k] + "0,0,99,0,1;", 14, 2);
            fault(LAW + sorts[k] + "0,0,0,6,1;", 16, 2);
            fault(LAW + sorts[k] + "0,0,40,99,1;", 17, 2);
            fault(LAW + sorts[k] + "0,0,0,0,0;", 18, 2);
            fault(LAW + sorts[k] + "0,0,0,0,7;", 18, 2);
            fault(LAW + sorts[k] + "0,0,0,0,00;", 18, 2);
        }
    }

    private static void hoursOfWishers() {
        sentence(7, "PLACES; 0 to 40; 0 to 5; 1 to 6; WISHERS 0 .. 5, 6 at most");
        on("<c2,0,20,0;k0,0,7,0,1;>");
        run("wisher(0,5)", 7, "hours(1)", 0, "wisher(0,5)", 0, "hours(4)", 0, "wisher(0,5)", 0, "hours(1)", 0, "wisher(0,5)", 7);
        on("<c2,0,20,0;k0,0,7,5,1;>");
        run("wisher(0,5)", 0, "hours(4)", 0, "wisher(0,5)", 0, "hours(1)", 0, "wisher(0,5)", 7, "hours(1)", 0, "wisher(0,5)", 0);
        on("<c2,0,20,0;k0,0,7,5,6;>");
        run("wisher(0,5)", 7, "hours(4)", 0, "wisher(0,5)", 7, "hours(1)", 0, "wisher(0,5)", 7, "hours(1)", 0, "wisher(0,5)", 7);
    }

    private static void roomForWishers() {
        sentence(7, "3 a road, a wisher more than there is room for (its letter)");
        gives("kind(0)", BAD);
        run("<" + LAW + ">", 0, "count(3)", 0, "kind(0)", BAD);
        run("<" + LAW + SIX + ">", 6, "count(3)", 6, "kind(5)", 4, "kind(6)", BAD);
        run("<" + LAW + SIX.substring(11) + ">", 5, "count(3)", 5, "kind(4)", 4, "kind(5)", BAD);
        on(EMPTY_TAPE);
        for (char sort : "awtkb".toCharArray()) {
            fault(LAW + SIX + sort + "0,0,0,0,1;", 75, 3);
            fault(LAW + SIX + sort + "9,9,99,9,0;", 75, 3);
            fault(LAW + SIX + sort, 75, 3);
        }
        // What is no wisher is no wisher too many.
        fault(LAW + SIX + "r0,1;", 75, 1);
        fault(LAW + SIX + "c", 75, 1);
        fault(LAW + SIX + "0", 75, 1);
        fault(LAW + SIX + ";", 75, 1);
    }

    private static void order() {
        sentence(7, "land: law { road } { wisher }");
        on(EMPTY_TAPE);
        fault("r0,1;" + LAW, 0, 1);
        fault(CHILD + LAW, 0, 1);
        fault(LAW + LAW, 9, 1);
        fault(LAW + "r0,1;" + LAW, 14, 1);
        fault(LAW + CHILD + LAW, 20, 1);
        fault(LAW + CHILD + "r0,1;", 20, 1);
        fault(LAW + "r0,1;" + CHILD + "r1,2;", 25, 1);
        reads(LAW + "r0,1;", 0);
        reads(LAW + CHILD, 1);
        reads(LAW + "r0,1;r1,2;" + CHILD + CHILD, 2);
    }

    private static void tokens() {
        sentence(7, "letters a to z (each by itself), NUMBERS (figures, 2 at most), SIGNS , and ; nothing else");
        on(EMPTY_TAPE);
        for (int letter = 0; letter < 256; letter++) {
            boolean begins = "awtkbr".indexOf(letter) >= 0;
            fault(LAW + (char) letter, begins ? 10 : 9, 1);
            boolean figure = letter >= '0' && letter <= '9';
            fault("c2" + (char) letter, letter == ',' ? 3 : figure ? 1 : 2, figure ? 2 : 1);
            fault((char) letter + "2,0,0,0", letter == 'c' ? 8 : 0, 1);
        }
        for (int figure = 0; figure < 10; figure++) {
            boolean places = figure >= 2 && figure <= 6;
            fault("c" + figure, places ? 2 : 1, places ? 1 : 2);
            fault("c0" + figure, places ? 3 : 1, places ? 1 : 2);
        }
    }

    private static void figures() {
        sentence(7, "1 it cannot stand there, or is none (a run of three figures or more, at its first; the end: how many bytes there are)");
        run("<c02,00,05,02;r00,01;k00,01,09,05,06;>", 1, "count(1)", 2, "place(0,0)", 5, "wisher(0,2)", 9, "far(0,1)", 1);
        on(EMPTY_TAPE);
        fault("c002,0,0,0;", 1, 1);
        fault("c0000002,0,0,0;", 1, 1);
        fault("c999,0,0,0;", 1, 1);
        fault("c2,000,0,0;", 3, 1);
        fault("c2,0,000,0;", 5, 1);
        fault("c2,0,00,000;", 8, 1);
        fault("c2,0,0,000", 7, 1);
        fault(LAW + "r000,1;", 10, 1);
        fault(LAW + "r00,001;", 13, 1);
        fault(LAW + "r0,000;", 12, 1);
        fault(LAW + "k000,0,0,0,1;", 10, 1);
        fault(LAW + "k0,000,0,0,1;", 12, 1);
        fault(LAW + "k0,0,040,0,1;", 14, 1);
        fault(LAW + "k0,0,400,0,1;", 14, 1);
        fault(LAW + "k0,0,0,000,1;", 16, 1);
        fault(LAW + "k0,0,0,0,001;", 18, 1);
        fault(LAW + "1", 9, 1);
        fault(LAW + "12", 9, 1);
        fault(LAW + "123", 9, 1);
        fault("123", 0, 1);
    }

    private static void end() {
        sentence(7, "the end: how many bytes there are");
        on(EMPTY_TAPE);
        fault("", 0, 1);
        String text = "c4,2,15,3;r0,1;r1,3;a0,1,12,0,6;k2,3,40,5,1;";
        int wishers = 0;
        for (int length = 1; length <= text.length(); length++) {
            String part = text.substring(0, length);
            if (part.endsWith(";")) {
                wishers += length > 20 ? 1 : 0;
                reads(part, wishers);
            } else {
                fault(part, length, 1);
            }
        }
        due("wishers of the whole text", wishers, 2);
    }

    private static void signs() {
        sentence(7, "1 it cannot stand there, or is none");
        on(EMPTY_TAPE);
        String text = "c4,2,15,3;r0,1;a0,1,12,0,6;";
        for (int i = 0; i < text.length(); i++) {
            char letter = text.charAt(i);
            String rest = text.substring(i + 1);
            if (letter == ',' || letter == ';') {
                fault(text.substring(0, i) + (letter == ',' ? ';' : ',') + rest, i, 1);
                fault(text.substring(0, i) + "z" + rest, i, 1);
                fault(text.substring(0, i) + " " + text.substring(i), i, 1);
            }
        }
        fault("c,2,0,0;", 1, 1);
        fault("cc2,2,0,0;", 1, 1);
        fault("c2,,0,0;", 3, 1);
        fault("c2,-1,0,0;", 3, 1);
        fault(LAW + ";", 9, 1);
        fault(LAW + "rr0,1;", 10, 1);
        fault(LAW + "r0,k1;", 12, 1);
        fault(LAW + "kk0,0,0,0,1;", 10, 1);
    }

    private static void firstFault() {
        sentence(7, "the first TOKEN that has one (its first byte), of one TOKEN the least");
        on(EMPTY_TAPE);
        fault("c1,9,99,9,", 1, 2);
        fault("c2,9;99", 3, 2);
        fault("c2;9,99", 2, 1);
        fault("c2,0,100,9;", 5, 1);
        fault("c2,0,21", 5, 2);
        fault("c100,9;", 1, 1);
        fault(LAW + "r3,3,", 10, 2);
        fault(LAW + "r1,1,", 12, 2);
        fault(LAW + "k9,9,99,9,9,", 10, 2);
        fault(LAW + "k0,0,0,0,7", 18, 2);
    }

    private static void tapeIsEmptyThen() {
        sentence(7, "The tape, empty then, is read: how many WISHERS there are.");
        on(EMPTY_TAPE);
        run("<" + LAW + CHILD + ">", 1, "count(9)", 0, "land()", -1000100, "fault()", 1, "count(1)", 3);
        run("<c1>", -1000101, "count(9)", 0, "land()", -1000100, "<" + LAW + ">", 0);
        on("<c2>");
        reads(LAW + CHILD, 1);
    }

    private static void aLandInPlace() {
        sentence(7, "A LAND that is read stands in place of the one before (none at first): HOUR 0, the hue is AT that PLACE; "
                + "nobody is TIRED; no ACT can be undone; IMAGES and ROWS stay.");
        on(EMPTY_TAPE);
        run("<c2,1,0,5;r0,1;w0,1,3,0,6;>", 1, "count(0)", 4, "count(1)", 2, "count(2)", 1, "count(3)", 1, "count(4)", 0,
                "count(5)", 1, "count(6)", 0, "count(7)", 0, "count(8)", 0, "undo()", STATE, "wisher(0,3)", 0, "wisher(0,4)", 0,
                "place(0,1)", 0, "place(1,1)", 0, "fault()", 1, "status()", 1, "trace(0)", 12, "drop(0)", 3, "restore(0)", STATE,
                "restore(1)", 1, "count(4)", 2, "count(3)", 1, "kind(0)", 4);
        // The three WISHERS of before: one TIRED, one that rests, one that wishes another thing.
        run("<c4,0,2,1;r0,1;r1,2;r2,3;a0,2,12,0,6;w3,3,9,1,3;k2,1,10,2,2;>", 3, "wisher(0,1)", 2, "wisher(0,2)", 12,
                "wisher(0,3)", 0, "wisher(1,3)", 0, "wisher(2,3)", 0, "wisher(2,4)", 0, "rest(2,1)", 1, "undo()", 0, "undo()", STATE);
        on("<c3,0,0,5;r0,1;r0,2;k1,1,20,0,6;k2,2,20,0,6;> hours(2) wish(0,0,0) hours(2)");
        run("count(6)", 1, "count(7)", 2, "place(0,1)", 1, "<c3,0,0,5;r0,1;>", 0, "count(6)", 0, "count(7)", 0, "place(0,1)", 0,
                "place(0,2)", 2, "place(2,2)", 0, "far(0,2)", 9);
    }

    private static void faults() {
        sentence(8, "The number of the latest FAULT; 0 before one.");
        gives("fault()", 0);
        run("<" + LAW + ">", 0, "fault()", 0, "<c>", -1000101, "fault()", 1, "<" + LAW + ">", 0, "fault()", 1, "<c1>", -1000101,
                "fault()", 2, "<" + LAW + SIX + "k>", -1000175, "fault()", 3, "<" + LAW + ">", 0, "fault()", 3, "<>", -1000100,
                "fault()", 1);
        on(RICH);
        tells("fault()", 1);
        on("<c1>");
        tells("fault()", 2);
    }

    public static void main(String[] args) {
        noLand();
        bytes();
        tapeIsFull();
        law();
        roads();
        roomForRoads();
        wishers();
        hoursOfWishers();
        roomForWishers();
        order();
        tokens();
        figures();
        end();
        signs();
        firstFault();
        tapeIsEmptyThen();
        aLandInPlace();
        faults();
        finish("TextBoundsTest");
    }
}
