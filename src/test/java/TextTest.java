/** Promises 5 to 8: the tape, the text's grammar and its fault. */
public final class TextTest {
    private static final Check CHECK = new Check();

    public static void main(String[] args) {
        tape();
        bytesOfNumbers();
        goodTexts();
        faults();
        boardsAtMost();
        boardsStay();
        CHECK.end();
    }

    private static void tape() {
        BoardSums x = new BoardSums();
        CHECK.due("end(0) of an empty tape", x.end(0), 0);
        CHECK.due("end(1) of an empty tape", x.end(1), -1);
        for (int i = 1; i <= 15; i++) {
            CHECK.due("feed " + i, x.feed(i, i, i, i, i), 20 * i);
        }
        CHECK.due("feed beyond 300", x.feed(0, 0, 0, 0, 0), -1);
        CHECK.due("count(4)", x.count(4), 300);
        CHECK.due("end(-1)", x.end(-1), -1);
        CHECK.due("end(301)", x.end(301), -1);
        CHECK.due("end(MIN)", x.end(Integer.MIN_VALUE), -1);
        CHECK.due("end(MAX)", x.end(Integer.MAX_VALUE), -1);
        CHECK.due("end(300)", x.end(300), 300);
        CHECK.due("end(281)", x.end(281), 281);
        CHECK.due("feed to 301", x.feed(0, 0, 0, 0, 0), -1);
        CHECK.due("count(4) after it", x.count(4), 281);
        CHECK.due("end(280)", x.end(280), 280);
        CHECK.due("feed to 300", x.feed(0, 0, 0, 0, 0), 300);
        CHECK.due("end(7)", x.end(7), 7);
        CHECK.due("end(8)", x.end(8), -1);
        CHECK.due("status without a call that sets it", x.status(), 0);
        CHECK.due("boards of 7 bytes", x.boards(), -6);
        CHECK.due("tape is empty then", x.count(4), 0);
        CHECK.due("end(0)", x.end(0), 0);
    }

    private static void bytesOfNumbers() {
        BoardSums x = new BoardSums();
        // "a=sheet 0" with bytes above 127 cut off behind it
        x.feed(0x613D7368, 0x65657420, 0x30FFFEFD, -1, -1);
        x.end(9);
        CHECK.due("boards", x.boards(), 1);
        x.feed(0x613D7368, 0x65657420, 0x30FFFEFD, -1, -1);
        x.end(10);
        CHECK.due("boards with a byte 255", x.boards(), -6);
        CHECK.due("fault at byte 255", x.fault(), 9);
    }

    private static void good(String text, int boards) {
        BoardSums x = new BoardSums();
        CHECK.due("fault ahead of any", x.fault(), -1);
        CHECK.due("'" + text + "'", Check.boards(x, text), boards);
        CHECK.due("fault of '" + text + "'", x.fault(), -1);
        CHECK.due("status of '" + text + "'", x.status(), 0);
        CHECK.due("count(2) of '" + text + "'", x.count(2), boards);
    }

    private static void goodTexts() {
        good("a=sheet 0", 1);
        good("a=sheet0", 1);
        good("   a   =   sheet   3   ", 1);
        good("a=sheet 003", 1);
        good("a=sheet 0;b=near3sum a", 2);
        good("z=sheet 1;b=near 1 count z;c=near 2 most b;d=near 3 least c", 4);
        good("a=sheet 0;b=fill a - 1000000", 2);
        good("a=sheet 0;b=fill a 1000000;c=fill a -0;d=fill a 0000000000000001000000", 4);
        good("a=sheet 0;b=add a a;c=less a b;d=times a b;e=least a b;f=most a b;g=where a b;h=way a b", 8);
        good("a=sheet 0;b=if a a a;c=zone sum a b;d=zone most a b;e=zone least a b;f=zone count a b;g=flow f", 7);
    }

    private static void bad(String text, int fault) {
        BoardSums x = new BoardSums();
        CHECK.due("'" + text + "'", Check.boards(x, text), -6);
        CHECK.due("fault of '" + text + "'", x.fault(), fault);
        CHECK.due("status of '" + text + "'", x.status(), -6);
        CHECK.due("count(2) of '" + text + "'", x.count(2), 0);
    }

    private static void faults() {
        bad("", 0);
        bad("    ", 4);
        bad("a", 1);
        bad("a  ", 3);
        bad("a=", 2);
        bad("a=sheet", 7);
        bad("a=sheet  ", 9);
        bad("a=sheet 4", 8);
        bad("a=sheet -1", 8);
        bad("a=sheet 99999999999999999999999", 8);
        bad("a=sheet b", 8);
        bad("a=sheets 0", 2);
        bad("a=shee 0", 2);
        bad("a=sum 0", 2);
        bad("a=count 0", 2);
        bad("a=b", 2);
        bad("a=3", 2);
        bad("A=sheet 0", 0);
        bad("ab=sheet 0", 0);
        bad("sheet=sheet 0", 0);
        bad("1=sheet 0", 0);
        bad(";a=sheet 0", 0);
        bad("a:sheet 0", 1);
        bad("a==sheet 0", 2);
        bad("a=sheet 0 b", 10);
        bad("a=sheet 0 0", 10);
        bad("a=sheet 0;", 10);
        bad("a=sheet 0 ;  ", 13);
        bad("a=sheet 0;;", 10);
        bad("a=sheet 0;a=sheet 1", 10);
        bad("a=add a a", 6);
        bad("a=sheet 0;b=add a b", 18);
        bad("a=sheet 0;b=add c a;c=sheet 1", 16);
        bad("a=sheet 0;b=add aa", 16);
        bad("a=sheet 0;b=add a", 17);
        bad("a=sheet 0;b=if a a", 18);
        bad("a=sheet 0;b=if a a 1", 19);
        bad("a=sheet 0;b=near 0 sum a", 17);
        bad("a=sheet 0;b=near 4 sum a", 17);
        bad("a=sheet 0;b=near sum a", 17);
        bad("a=sheet 0;b=near 1 a", 19);
        bad("a=sheet 0;b=near 1 add a", 19);
        bad("a=sheet 0;b=near 1 flow a", 19);
        bad("a=sheet 0;b=zone a a", 17);
        bad("a=sheet 0;b=zone sum a", 22);
        bad("a=sheet 0;b=flow", 16);
        bad("a=sheet 0;b=flow a a", 19);
        bad("a=sheet 0;b=fill a", 18);
        bad("a=sheet 0;b=fill a -", 20);
        bad("a=sheet 0;b=fill a --1", 20);
        bad("a=sheet 0;b=fill a +1", 19);
        bad("a=sheet 0;b=fill a b", 19);
        bad("a=sheet 0;b=fill a 1000001", 19);
        bad("a=sheet 0;b=fill a -1000001", 20);
        bad("a=sheet 0;b=fill a - 1000001", 21);
        bad("a=sheet 0;b=fill a 10000000000000000000000", 19);
        bad("a=sheet 0;b=fill a 4294967296", 19);
        bad("a=sheet 0;b=fill a 1 000", 21);
        bad("\ta=sheet 0", 0);
        bad("a=sheet 0\0", 9);
        bad("a=sheet\0000", 7);
        bad("a=sheet " + (char) 178, 8);
        bad("" + (char) 225 + "=sheet 0", 0);
    }

    private static String many(int boards) {
        StringBuilder text = new StringBuilder();
        for (int i = 0; i < boards; i++) {
            text.append(i == 0 ? "" : ";").append((char) ('a' + i)).append("=sheet 0");
        }
        return text.toString();
    }

    private static void boardsAtMost() {
        good(many(10), 10);
        bad(many(11), 100);
        bad(many(10) + ";", 100);
        bad(many(10) + "; a=sheet 0", 101);
        bad(many(10) + ";=", 100);
        bad(many(10) + " k=sheet 0", 100);
        String longest = many(10) + " ".repeat(300 - many(10).length());
        good(longest, 10);
        bad(" ".repeat(299) + "a", 300);
        bad("a" + " ".repeat(299), 300);
        bad("9".repeat(300), 0);
        bad("a".repeat(300), 0);
    }

    private static void boardsStay() {
        BoardSums x = Check.of(8, 8, "a=sheet 0;b=fill a 5");
        CHECK.due("cell", x.cell(1, 0, 0), 5);
        CHECK.due("a text that can't be", Check.boards(x, "a=sheet 0;b=fill a 6;"), -6);
        CHECK.due("fault", x.fault(), 21);
        CHECK.due("boards stay", x.count(2), 2);
        CHECK.due("fresh tiles stay", x.count(5), 2);
        CHECK.due("cells stay", x.cell(1, 0, 0), 5);
        CHECK.due("made stays", x.made(), 2);
        CHECK.due("cells beside", x.cell(1, 4, 0), 5);
        CHECK.due("a new text", Check.boards(x, "c=sheet 0;d=fill c 6"), 2);
        CHECK.due("fault is gone", x.fault(), -1);
        CHECK.due("no tile is fresh", x.count(5), 0);
        CHECK.due("new cells", x.cell(1, 0, 0), 6);
        CHECK.due("made in all", x.made(), 6);
        CHECK.due("names are free again", Check.boards(x, "c=sheet 0"), 1);
        CHECK.due("no such board now", x.cell(1, 0, 0), BoardSums.GAP);
    }
}
