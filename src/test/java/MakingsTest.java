/** Promise 9: what each making answers, cell by cell. */
public final class MakingsTest {
    private static final int GAP = BoardSums.GAP;
    private static final Integer G = null;
    private static final Check CHECK = new Check();

    public static void main(String[] args) {
        ofTwo();
        beyond();
        where();
        ifs();
        fill();
        near();
        nearAcrossTiles();
        zone();
        way();
        wayBeyond();
        wayWinds();
        flow();
        flowOfAlike();
        flowAcrossTiles();
        withoutSize();
        CHECK.end();
    }

    private static void row(String what, BoardSums x, int board, int y, int... want) {
        for (int u = 0; u < want.length; u++) {
            CHECK.due(what + " at " + u + ", " + y, x.cell(board, u, y), want[u]);
        }
    }

    private static void ofTwo() {
        BoardSums x = Check.of(4, 2, "a=sheet 0;b=sheet 1;c=add a b;d=less a b;e=times a b;f=least a b;g=most a b");
        Check.tellAll(x, 0, new Integer[][] {{7, -3, G, 4}, {0, 1000000, -1000000, G}});
        Check.tellAll(x, 1, new Integer[][] {{2, -5, 1, G}, {0, 1000, 1000, G}});
        row("add", x, 2, 0, 9, -8, GAP, GAP);
        row("add", x, 2, 1, 0, 1001000, -999000, GAP);
        row("less", x, 3, 0, 5, 2, GAP, GAP);
        row("times", x, 4, 0, 14, 15, GAP, GAP);
        row("times", x, 4, 1, 0, 1000000000, -1000000000, GAP);
        row("least", x, 5, 0, 2, -5, GAP, GAP);
        row("most", x, 6, 0, 7, -3, GAP, GAP);
    }

    private static void beyond() {
        BoardSums x = Check.of(2, 2, "a=sheet 0;b=sheet 1;c=times a b;d=add c a;e=less a c;f=times c c;g=add c c;"
            + "h=near 1 sum c;i=zone sum c a;j=near 1 most c");
        x.tell(0, 0, 0, 1000000);
        x.tell(1, 0, 0, 999);
        x.tell(0, 1, 0, 1000000);
        x.tell(1, 1, 0, 1000);
        row("c", x, 2, 0, 999000000, 1000000000);
        row("d", x, 3, 0, 1000000000, GAP);
        row("e", x, 4, 0, -998000000, -999000000);
        row("f", x, 5, 0, GAP, GAP);
        row("g", x, 6, 0, GAP, GAP);
        row("h", x, 7, 0, GAP, GAP);
        row("i", x, 8, 0, GAP, GAP);
        row("j", x, 9, 0, 1000000000, 1000000000);
        x.tell(1, 1, 0, -998);
        row("h, brought back within", x, 7, 0, 1000000, 1000000);
        row("i, brought back within", x, 8, 0, 1000000, 1000000);
    }

    private static void where() {
        BoardSums x = Check.of(6, 2, "a=sheet 0;b=sheet 1;c=where a b");
        Check.tellAll(x, 0, new Integer[][] {{5, 6, 7, 8, G, -9}});
        Check.tellAll(x, 1, new Integer[][] {{1, 0, -1, G, 1, 1000000}});
        row("where", x, 2, 0, 5, GAP, GAP, GAP, GAP, -9);
    }

    private static void ifs() {
        BoardSums x = Check.of(7, 2, "a=sheet 0;b=sheet 1;c=sheet 2;d=if a b c");
        Check.tellAll(x, 0, new Integer[][] {{1, 0, -1, G, 1, 0, 2}});
        Check.tellAll(x, 1, new Integer[][] {{10, 11, 12, 13, G, 15, 16}});
        Check.tellAll(x, 2, new Integer[][] {{20, 21, 22, 23, 24, G, G}});
        row("if", x, 3, 0, 10, 21, 22, GAP, GAP, GAP, 16);
    }

    private static void fill() {
        BoardSums x = Check.of(3, 2, "a=sheet 0;b=fill a - 7;c=fill a 1000000;d=fill a 0;e=fill b 3");
        Check.tellAll(x, 0, new Integer[][] {{0, G, -4}});
        row("fill", x, 1, 0, 0, -7, -4);
        row("fill", x, 2, 0, 0, 1000000, -4);
        row("fill", x, 3, 0, 0, 0, -4);
        row("fill", x, 4, 0, 0, -7, -4);
    }

    private static void near() {
        BoardSums x = Check.of(5, 5, "a=sheet 0;b=near 1 sum a;c=near 1 most a;d=near 1 least a;e=near 1 count a;"
            + "f=near 2 sum a;g=near 3 sum a");
        x.tell(0, 0, 0, 5);
        x.tell(0, 1, 1, -2);
        x.tell(0, 4, 4, 7);
        row("sum", x, 1, 0, 3, 3, -2, GAP, GAP);
        row("most", x, 2, 0, 5, 5, -2, GAP, GAP);
        row("least", x, 3, 1, -2, -2, -2, GAP, GAP);
        row("count", x, 4, 0, 2, 2, 1, 0, 0);
        row("count", x, 4, 3, 0, 0, 0, 1, 1);
        row("near 2", x, 5, 2, 3, 3, 10, 5, 7);
        row("near 3", x, 6, 3, 3, 10, 10, 10, 5);
        row("near 3", x, 6, 4, -2, 5, 5, 5, 5);
    }

    private static void nearAcrossTiles() {
        BoardSums x = Check.of(12, 12, "a=sheet 0;b=fill a 1;c=near 3 sum b;d=near 3 count a");
        CHECK.due("corner", x.cell(2, 0, 0), 16);
        CHECK.due("middle", x.cell(2, 6, 6), 49);
        CHECK.due("side", x.cell(2, 11, 5), 28);
        CHECK.due("end", x.cell(2, 11, 11), 16);
        x.tell(0, 11, 0, 5);
        CHECK.due("no row beyond the side", x.cell(3, 0, 1), 0);
        CHECK.due("three away", x.cell(3, 8, 3), 1);
        CHECK.due("four away", x.cell(3, 7, 3), 0);
    }

    private static void zone() {
        BoardSums x = Check.of(9, 2, "a=sheet 0;b=sheet 1;c=zone sum a b;d=zone most a b;e=zone least a b;"
            + "f=zone count a b");
        Check.tellAll(x, 0, new Integer[][] {{1, 2, 4, 8, 16, G, G, 9, -3}});
        Check.tellAll(x, 1, new Integer[][] {{0, 3, 0, 3, G, 0, -7, -1, 0}, {3, G, G, G, G, G, G, G, G}});
        row("sum", x, 2, 0, 2, 10, 2, 10, GAP, 2, GAP, 9, 2);
        row("sum", x, 2, 1, 10, GAP, GAP);
        row("most", x, 3, 0, 4, 8, 4, 8, GAP, 4, GAP, 9, 4);
        row("least", x, 4, 0, -3, 2, -3, 2, GAP, -3, GAP, 9, -3);
        row("count", x, 5, 0, 3, 2, 3, 2, GAP, 3, 0, 1, 3);
    }

    private static void way() {
        BoardSums x = Check.of(5, 3, "a=sheet 0;b=sheet 1;c=way a b");
        Check.tellAll(x, 1, new Integer[][] {{3, 4, G, 1, 2}, {9, 2, G, G, 5}, {1, -6, 2, 7, G}});
        x.tell(0, 0, 0, 1);
        x.tell(0, 2, 0, 1);
        row("way", x, 2, 0, 0, 4, GAP, GAP, GAP);
        row("way", x, 2, 1, 9, 6, GAP, GAP, GAP);
        row("way", x, 2, 2, 7, 6, 8, 15, GAP);
        x.tell(0, 4, 1, 1000000);
        x.tell(0, 0, 2, 0);
        x.tell(0, 1, 2, -1);
        row("way from two", x, 2, 0, 0, 4, GAP, 3, 2);
        row("way from two", x, 2, 1, 9, 6, GAP, GAP, 0);
        x.tell(0, 0, 0, GAP);
        row("way from the other", x, 2, 0, GAP, GAP, GAP, 3, 2);
        x.tell(0, 1, 2, 4);
        row("way from below 0", x, 2, 2, 1, 0, 2, 9, GAP);
        row("way from below 0", x, 2, 0, 9, 6, GAP, 3, 2);
    }

    private static void wayBeyond() {
        BoardSums x = Check.of(4, 2, "a=sheet 0;b=sheet 1;c=sheet 2;d=times b c;e=way a d");
        Check.tellAll(x, 0, new Integer[][] {{1, G, G, G}});
        Check.tellAll(x, 1, new Integer[][] {{1000000, 1000000, 1000000, 0}});
        Check.tellAll(x, 2, new Integer[][] {{1000, 999, 1, 0}});
        row("to the greatest value", x, 4, 0, 0, 999000000, 1000000000, 1000000000);
        x.tell(2, 2, 0, 2);
        row("beyond it", x, 4, 0, 0, 999000000, GAP, GAP);
        x.tell(2, 1, 0, 1000);
        x.tell(2, 2, 0, 1000);
        row("twice the greatest", x, 4, 0, 0, 1000000000, GAP, GAP);
    }

    /** A way that winds to and fro between walls of gaps. */
    private static void wayWinds() {
        BoardSums x = Check.of(12, 12, "a=sheet 0;b=sheet 1;c=way a b");
        for (int y = 0; y < 12; y++) {
            for (int u = 0; u < 12; u++) {
                boolean gate = y % 4 == 1 && u == 11 || y % 4 == 3 && u == 0;
                if (y % 2 == 0 || gate) {
                    x.tell(1, u, y, 1);
                }
            }
        }
        x.tell(0, 0, 0, 1);
        CHECK.due("first row's end", x.cell(2, 11, 0), 11);
        CHECK.due("last row's end", x.cell(2, 0, 10), 6 * 11 + 5 * 2);
        CHECK.due("last gate", x.cell(2, 0, 11), 6 * 11 + 5 * 2 + 1);
        CHECK.due("wall", x.cell(2, 5, 1), GAP);
    }

    private static void flow() {
        BoardSums x = Check.of(4, 3, "a=sheet 0;b=flow a");
        Check.tellAll(x, 0, new Integer[][] {{9, 8, 7, G}, {9, 9, 6, 1}, {G, 3, 5, 6}});
        row("flow", x, 1, 0, 1, 2, 3, GAP);
        row("flow", x, 1, 1, 1, 1, 4, 6);
        row("flow", x, 1, 2, GAP, 3, 1, 1);
    }

    private static void flowOfAlike() {
        BoardSums x = Check.of(3, 3, "a=sheet 0;b=flow a");
        Check.tellAll(x, 0, new Integer[][] {{G, 1, G}, {1, 5, 1}, {G, 1, G}});
        row("right first", x, 1, 1, 1, 1, 2);
        x.tell(0, 2, 1, GAP);
        row("then up", x, 1, 2, GAP, 2, GAP);
        row("not down", x, 1, 0, GAP, 1, GAP);
        x.tell(0, 1, 2, 5);
        row("then left", x, 1, 1, 2, 1, GAP);
        x.tell(0, 0, 1, 2);
        row("the least one", x, 1, 0, GAP, 2, GAP);
        x.tell(0, 1, 0, GAP);
        row("left", x, 1, 1, 2, 1, GAP);
        x.tell(0, 0, 1, 5);
        row("alike ones do not flow", x, 1, 1, 1, 1, GAP);
        row("alike ones do not flow", x, 1, 2, GAP, 1, GAP);
    }

    private static void flowAcrossTiles() {
        BoardSums x = Check.of(12, 12, "a=sheet 0;b=flow a");
        int value = 200;
        for (int y = 0; y < 12; y++) {
            for (int i = 0; i < 12; i++) {
                x.tell(0, y % 2 == 0 ? i : 11 - i, y, value--);
            }
        }
        // Up is lower than the next of the row, but in the last row.
        for (int u = 0; u < 12; u++) {
            CHECK.due("last row", x.cell(1, u, 11), 12 * (12 - u));
            CHECK.due("first row", x.cell(1, u, 0), 1);
            CHECK.due("seventh row", x.cell(1, u, 6), 7);
        }
    }

    /** Beyond the first 8 times 8 cells of a new object there is nothing either. */
    private static void withoutSize() {
        BoardSums x = new BoardSums();
        Check.boards(x, "a=sheet 0;b=fill a 0;c=fill a 5;d=zone count b b;e=flow c;f=way a c;g=near 3 count c");
        x.tell(0, 7, 7, 5);
        row("zone", x, 3, 0, 63, 63);
        row("flow", x, 4, 0, 1, 1, 1, 1, 1, 1, 1, 1);
        row("flow", x, 4, 7, 1, 1, 1, 1, 1, 1, 1, 1);
        row("way", x, 5, 7, 35, 30, 25, 20, 15, 10, 5, 0);
        row("way", x, 5, 0, 70, 65, 60, 55, 50, 45, 40, 35);
        row("near", x, 6, 7, 16, 20, 24, 28, 28, 24, 20, 16);
    }
}
