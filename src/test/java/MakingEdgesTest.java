/** Terms II, what each making answers, and promise 9: each sentence that names an edge. */
public final class MakingEdgesTest {
    private static final int GAP = BoardSums.GAP;
    private static final int MIN = Integer.MIN_VALUE;
    private static final int MAX = Integer.MAX_VALUE;
    private static final Integer G = null;
    private static final int GREATEST = 1000000000;
    private static final String[] HOWS = {"sum", "most", "least", "count"};
    /** Right, up, left, down. */
    private static final int[][] SIDES = {{1, 0}, {0, 1}, {-1, 0}, {0, -1}};
    /** Board 4, e, can have each value: a times b and c. */
    private static final String ANY_VALUE = "a=sheet 0;b=sheet 1;c=sheet 2;d=times a b;e=add d c;";
    private static final Check CHECK = new Check();

    public static void main(String[] args) {
        addBeyond();
        lessBeyond();
        timesBeyond();
        nearSumBeyond();
        zoneSumBeyond();
        wayBeyond();
        gapOfBoth();
        bothValues();
        where();
        ifs();
        fill();
        nearNotFarther();
        nearAtTheSides();
        nearWithGaps();
        nearOfNone();
        nearOfExtremes();
        zoneGap();
        zoneSameValue();
        zoneOfNone();
        zoneOfExtremes();
        zoneOfOneCell();
        wayGap();
        wayZero();
        wayComesInto();
        wayBelowZero();
        wayFromWhereNoGap();
        wayFromSideToSide();
        wayNoneLeads();
        wayLeast();
        wayWinds();
        flowGap();
        flowOneAlone();
        flowToTheLeast();
        flowIfLess();
        flowOfAlike();
        flowFromSideToSide();
        flowAllThatFlows();
        cellMade();
        cellWithout();
        CHECK.end();
    }

    private static void row(String what, BoardSums x, int board, int y, int... want) {
        for (int u = 0; u < want.length; u++) {
            CHECK.due(what + " at " + u + ", " + y, x.cell(board, u, y), want[u]);
        }
    }

    /** Tells sheets 0, 1 and 2 so that board e of ANY_VALUE has that value there. */
    private static void tellAny(BoardSums x, int u, int v, int value) {
        x.tell(0, u, v, value / 1000);
        x.tell(1, u, v, 1000);
        x.tell(2, u, v, value % 1000);
    }

    private static void addBeyond() {
        CHECK.sentence("II: A CELL is a GAP, where a VALUE would be beyond: add");
        BoardSums x = Check.of(6, 2, ANY_VALUE + "f=sheet 3;g=add e f;h=add f e;i=add e e");
        int[] first = {GREATEST, GREATEST - 1, GREATEST, -GREATEST, 1 - GREATEST, -GREATEST};
        for (int u = 0; u < 6; u++) {
            tellAny(x, u, 0, first[u]);
        }
        Check.tellAll(x, 3, new Integer[][] {{0, 1, 1, 0, -1, -1}});
        row("add", x, 6, 0, GREATEST, GREATEST, GAP, -GREATEST, -GREATEST, GAP);
        row("add turned", x, 7, 0, GREATEST, GREATEST, GAP, -GREATEST, -GREATEST, GAP);
        row("twice", x, 8, 0, GAP, GAP, GAP, GAP, GAP, GAP);
        for (int u = 0; u < 2; u++) {
            tellAny(x, u, 0, u == 0 ? -500000000 : 500000000);
        }
        row("twice the half", x, 8, 0, -GREATEST, GREATEST, GAP, GAP);
    }

    private static void lessBeyond() {
        CHECK.sentence("II: A CELL is a GAP, where a VALUE would be beyond: less");
        BoardSums x = Check.of(6, 2, ANY_VALUE + "f=sheet 3;g=less e f;h=less f e;i=fill e 0;j=less i e");
        int[] first = {GREATEST, GREATEST - 1, GREATEST, -GREATEST, 1 - GREATEST, -GREATEST};
        for (int u = 0; u < 6; u++) {
            tellAny(x, u, 0, first[u]);
        }
        Check.tellAll(x, 3, new Integer[][] {{0, -1, -1, 0, 1, 1}});
        row("less", x, 6, 0, GREATEST, GREATEST, GAP, -GREATEST, -GREATEST, GAP);
        row("less turned", x, 7, 0, -GREATEST, -GREATEST, GAP, GREATEST, GREATEST, GAP);
        row("less itself", x, 9, 0, 0, 0, 0, 0, 0, 0);
    }

    private static void timesBeyond() {
        CHECK.sentence("II: A CELL is a GAP, where a VALUE would be beyond: times");
        BoardSums x = Check.of(12, 2, "a=sheet 0;b=sheet 1;c=times a b;d=times c c;e=times c a");
        // Of 65,536 times 65,536 only 0 is left in 32 bits, of 65,536 times 65,537 65,536.
        Check.tellAll(x, 0, new Integer[][] {{1000000, 1000000, -1000000, -1000000, -1000000, 65536, 65536, 1000000,
            -1000000, 31623, 31622, 0}});
        Check.tellAll(x, 1, new Integer[][] {{1000, 1001, 1000, -1000, 1001, 65536, 65537, 1000000, 1000000, 31623,
            31622, 1000000}});
        row("times", x, 2, 0, GREATEST, GAP, -GREATEST, GREATEST, GAP, GAP, GAP, GAP, GAP, GAP, 999950884, 0);
        row("of the greatest", x, 3, 0, GAP, GAP, GAP, GAP, GAP, GAP, GAP, GAP, GAP, GAP, GAP, 0);
        row("of the greatest told", x, 4, 0, GAP, GAP, GAP, GAP, GAP, GAP, GAP, GAP, GAP, GAP, GAP, 0);
    }

    /** Four times the greatest and 294,967,296 are 0, if they wrap around at 32 bits. */
    private static void tellWrap(BoardSums x, int rest, int sign) {
        for (int u = 0; u < 4; u++) {
            tellAny(x, u % 3, u / 3, sign * GREATEST);
        }
        tellAny(x, 1, 1, sign * (294967296 + rest));
    }

    private static void nearSumBeyond() {
        CHECK.sentence("II: A CELL is a GAP, where a VALUE would be beyond: near sum");
        BoardSums x = Check.of(3, 3, ANY_VALUE + "f=near 1 sum e;g=near 1 most e;h=near 1 count e");
        for (int sign = -1; sign <= 1; sign += 2) {
            tellWrap(x, 7, sign);
            CHECK.due("wraps around", x.cell(5, 1, 1), GAP);
            CHECK.due("count of them", x.cell(7, 1, 1), 5);
        }
        CHECK.due("greatest of them", x.cell(6, 1, 1), GREATEST);
        tellAny(x, 1, 1, -GREATEST);
        tellAny(x, 2, 1, -GREATEST);
        tellAny(x, 0, 1, -GREATEST);
        CHECK.due("all but nothing", x.cell(5, 1, 1), 0);
        tellAny(x, 0, 2, GREATEST);
        CHECK.due("the greatest", x.cell(5, 1, 1), GREATEST);
        tellAny(x, 1, 2, 1);
        CHECK.due("one beyond", x.cell(5, 1, 1), GAP);
        tellAny(x, 1, 2, -1);
        CHECK.due("one within", x.cell(5, 1, 1), GREATEST - 1);
    }

    private static void zoneSumBeyond() {
        CHECK.sentence("II: A CELL is a GAP, where a VALUE would be beyond: zone sum");
        BoardSums x = Check.of(3, 3, ANY_VALUE + "f=sheet 3;g=zone sum e f;h=zone least e f;i=zone count e f");
        for (int place = 0; place < 9; place++) {
            x.tell(3, place % 3, place / 3, 1);
        }
        for (int sign = -1; sign <= 1; sign += 2) {
            tellWrap(x, 7, sign);
            CHECK.due("wraps around", x.cell(6, 2, 2), GAP);
            CHECK.due("count of them", x.cell(8, 2, 2), 5);
        }
        CHECK.due("least of them", x.cell(7, 2, 2), 294967303);
        for (int u = 0; u < 3; u++) {
            tellAny(x, u, 1, -GREATEST);
        }
        CHECK.due("all but nothing", x.cell(6, 0, 0), 0);
        tellAny(x, 0, 2, -GREATEST);
        CHECK.due("the least", x.cell(6, 0, 0), -GREATEST);
        tellAny(x, 1, 2, -1);
        CHECK.due("one beyond", x.cell(6, 0, 0), GAP);
    }

    private static void wayBeyond() {
        CHECK.sentence("II: A CELL is a GAP, where a VALUE would be beyond: way");
        BoardSums x = Check.of(12, 2, ANY_VALUE + "f=sheet 3;g=way f e");
        x.tell(3, 0, 0, 1);
        for (int u = 0; u < 12; u++) {
            tellAny(x, u, 0, GREATEST);
        }
        // Of five times the greatest 705,032,704 are left in 32 bits.
        row("each the greatest", x, 6, 0, 0, GREATEST, GAP, GAP, GAP, GAP, GAP, GAP, GAP, GAP, GAP, GAP);
        tellAny(x, 1, 0, GREATEST - 1);
        tellAny(x, 2, 0, 1);
        tellAny(x, 3, 0, 0);
        tellAny(x, 4, 0, -5);
        tellAny(x, 5, 0, 1);
        tellAny(x, 6, 0, 0);
        row("to the greatest", x, 6, 0, 0, GREATEST - 1, GREATEST, GREATEST, GREATEST, GAP, GAP);
        x.tell(3, 7, 0, 1);
        row("from the other end", x, 6, 0, 0, GREATEST - 1, 2, 1, 1, 1, 0, 0);
    }

    private static void gapOfBoth() {
        CHECK.sentence("II: add, less, times, least, most: a GAP, if one is");
        String[] makings = {"add", "less", "times", "least", "most"};
        for (String making : makings) {
            BoardSums x = Check.of(4, 2, "a=sheet 0;b=sheet 1;c=" + making + " a b");
            Check.tellAll(x, 0, new Integer[][] {{5, G, G, 0}});
            Check.tellAll(x, 1, new Integer[][] {{G, 5, G, 0}});
            row(making, x, 2, 0, GAP, GAP, GAP, 0);
        }
    }

    private static void bothValues() {
        CHECK.sentence("II: add, less, times, least, most: of both VALUES there");
        BoardSums x = Check.of(4, 2, "a=sheet 0;b=sheet 1;c=add a b;d=less a b;e=times a b;f=least a b;g=most a b");
        Check.tellAll(x, 0, new Integer[][] {{-1000000, 1000000, 3, 7}});
        Check.tellAll(x, 1, new Integer[][] {{1000, -1000, 3, -2}});
        row("add", x, 2, 0, -999000, 999000, 6, 5);
        row("less", x, 3, 0, -1001000, 1001000, 0, 9);
        row("times", x, 4, 0, -GREATEST, -GREATEST, 9, -14);
        row("least", x, 5, 0, -1000000, -1000, 3, -2);
        row("most", x, 6, 0, 1000, 1000000, 3, 7);
    }

    private static void where() {
        CHECK.sentence("II: where a b: a's, where b's VALUE is above 0; else a GAP");
        BoardSums x = Check.of(8, 2, "a=sheet 0;b=sheet 1;c=where a b");
        Check.tellAll(x, 0, new Integer[][] {{7, 7, 7, 7, G, -7, 0, 7}});
        Check.tellAll(x, 1, new Integer[][] {{1, 0, -1, G, 1, 1, 1, 1000000}});
        row("where", x, 2, 0, 7, GAP, GAP, GAP, GAP, -7, 0, 7);
    }

    private static void ifs() {
        CHECK.sentence("II: if a b c: b's, where a's VALUE is above 0, c's where it is not, a GAP where a is one");
        BoardSums x = Check.of(9, 2, "a=sheet 0;b=sheet 1;c=sheet 2;d=if a b c");
        Check.tellAll(x, 0, new Integer[][] {{1, 0, -1, G, 1, 0, 1, 0, -1000000}});
        Check.tellAll(x, 1, new Integer[][] {{5, 5, 5, 5, G, G, 5, 5, G}});
        Check.tellAll(x, 2, new Integer[][] {{6, 6, 6, 6, 6, 6, G, G, 6}});
        row("if", x, 3, 0, 5, 6, 6, GAP, GAP, 6, 5, GAP, 6);
    }

    private static void fill() {
        CHECK.sentence("II: fill a n: n, where a is a GAP; else a's");
        BoardSums x = Check.of(5, 2, "a=sheet 0;b=fill a 3;c=fill a -1000000;d=times a a;e=fill d 1000000");
        Check.tellAll(x, 0, new Integer[][] {{G, 0, -1, 1000000, -1000000}});
        row("fill", x, 1, 0, 3, 0, -1, 1000000, -1000000);
        row("fill with the least", x, 2, 0, -1000000, 0, -1, 1000000, -1000000);
        row("fill where a VALUE would be beyond", x, 4, 0, 1000000, 0, 1, 1000000, 1000000);
    }

    private static void nearNotFarther() {
        CHECK.sentence("II: near r h a: of all CELLS of a not farther than r from it in x and in y");
        int[][] spots = {{5, 6}, {0, 0}, {11, 11}, {11, 0}, {3, 8}};
        for (int r = 1; r <= 3; r++) {
            for (int[] s : spots) {
                BoardSums x = Check.of(12, 12, "a=sheet 0;b=near " + r + " count a");
                x.tell(0, s[0], s[1], -5);
                for (int place = 0; place < 144; place++) {
                    int far = Math.max(Math.abs(place % 12 - s[0]), Math.abs(place / 12 - s[1]));
                    CHECK.due("near " + r + " at " + place, x.cell(1, place % 12, place / 12), far <= r ? 1 : 0);
                }
            }
        }
    }

    private static void nearAtTheSides() {
        CHECK.sentence("II: near r h a: of all CELLS, beyond the sides there are none");
        for (int side = 2; side <= 12; side++) {
            for (int r = 1; r <= 3; r++) {
                BoardSums x = Check.of(side, 2, "a=sheet 0;b=fill a 1;c=near " + r + " sum b");
                for (int u = 0; u < side; u++) {
                    int columns = Math.min(side - 1, u + r) - Math.max(0, u - r) + 1;
                    CHECK.due("near " + r + " of " + side + " at " + u, x.cell(2, u, 1), 2 * columns);
                }
                BoardSums y = Check.of(2, side, "a=sheet 0;b=fill a 1;c=near " + r + " sum b");
                CHECK.due("near " + r + " of height " + side, y.cell(2, 0, side - 1), 2 * Math.min(side, r + 1));
            }
        }
    }

    private static void nearWithGaps() {
        CHECK.sentence("II: near: of CELLS that are no GAPS: their sum, greatest, least VALUE, how many");
        BoardSums x = Check.of(3, 3, "a=sheet 0;b=near 1 sum a;c=near 1 most a;d=near 1 least a;e=near 1 count a");
        Check.tellAll(x, 0, new Integer[][] {{-4, G, 9}, {G, G, 0}, {2, G, G}});
        int[] due = {7, 9, -4, 4};
        for (int h = 0; h < 4; h++) {
            CHECK.due(HOWS[h] + " about a gap", x.cell(1 + h, 1, 1), due[h]);
        }
        int[] corner = {-4, -4, -4, 1};
        for (int h = 0; h < 4; h++) {
            CHECK.due(HOWS[h] + " of itself", x.cell(1 + h, 0, 0), corner[h]);
        }
    }

    private static void nearOfNone() {
        CHECK.sentence("II: near: a GAP, if there is none (count: 0)");
        for (String how : HOWS) {
            BoardSums x = Check.of(12, 12, "a=sheet 0;b=near 3 " + how + " a");
            x.tell(0, 11, 11, 5);
            CHECK.due(how + " of none", x.cell(1, 7, 11), how.equals("count") ? 0 : GAP);
            CHECK.due(how + " of one", x.cell(1, 8, 11), how.equals("count") ? 1 : 5);
            x.tell(0, 11, 11, GAP);
            CHECK.due(how + " of none now", x.cell(1, 11, 11), how.equals("count") ? 0 : GAP);
        }
    }

    private static void nearOfExtremes() {
        CHECK.sentence("II: near: greatest, least VALUE, be they the least and the greatest that can be");
        BoardSums x = Check.of(12, 2, ANY_VALUE + "f=near 1 most e;g=near 1 least e;h=near 1 sum e");
        tellAny(x, 0, 0, -GREATEST);
        tellAny(x, 11, 0, GREATEST);
        for (int board = 5; board < 8; board++) {
            CHECK.due("the least of all in " + board, x.cell(board, 0, 0), -GREATEST);
            CHECK.due("the greatest of all in " + board, x.cell(board, 11, 0), GREATEST);
        }
    }

    private static void zoneGap() {
        CHECK.sentence("II: zone h a b: a GAP, where b is one");
        for (String how : HOWS) {
            BoardSums x = Check.of(3, 2, "a=sheet 0;b=sheet 1;c=zone " + how + " a b");
            Check.tellAll(x, 0, new Integer[][] {{1, 1, 1}, {1, 1, 1}});
            Check.tellAll(x, 1, new Integer[][] {{G, 0, G}});
            row(how, x, 2, 0, GAP, 1, GAP);
            row(how, x, 2, 1, GAP, GAP, GAP);
            x.tell(1, 1, 0, GAP);
            row(how + ", a gap now", x, 2, 0, GAP, GAP, GAP);
        }
    }

    private static void zoneSameValue() {
        CHECK.sentence("II: zone: of all CELLS of a that are no GAPS and where b has the same VALUE as here");
        BoardSums x = Check.of(12, 12, "a=sheet 0;b=sheet 1;c=zone sum a b;d=zone most a b;e=zone least a b;"
            + "f=zone count a b");
        int[][] spots = {{0, 0}, {11, 0}, {0, 11}, {11, 11}};
        for (int i = 0; i < 4; i++) {
            x.tell(0, spots[i][0], spots[i][1], 1 << i);
            x.tell(1, spots[i][0], spots[i][1], i == 2 ? -1 : 1);
        }
        x.tell(1, 5, 5, 1);
        x.tell(0, 6, 6, 100);
        x.tell(1, 7, 7, 0);
        int[] due = {11, 8, 1, 3};
        for (int h = 0; h < 4; h++) {
            CHECK.due(HOWS[h] + " from corner to corner", x.cell(2 + h, 0, 0), due[h]);
            CHECK.due(HOWS[h] + " at the end", x.cell(2 + h, 11, 11), due[h]);
            CHECK.due(HOWS[h] + " where a is a gap", x.cell(2 + h, 5, 5), due[h]);
            CHECK.due(HOWS[h] + " of the other sign", x.cell(2 + h, 0, 11), h == 3 ? 1 : 4);
            CHECK.due(HOWS[h] + " where b is a gap", x.cell(2 + h, 6, 6), GAP);
        }
    }

    private static void zoneOfNone() {
        CHECK.sentence("II: zone: likewise (a GAP, if there is none; count: 0)");
        for (String how : HOWS) {
            BoardSums x = Check.of(3, 2, "a=sheet 0;b=sheet 1;c=zone " + how + " a b");
            Check.tellAll(x, 0, new Integer[][] {{G, 4, G}});
            Check.tellAll(x, 1, new Integer[][] {{2, 3, 2}});
            int none = how.equals("count") ? 0 : GAP;
            row(how, x, 2, 0, none, how.equals("count") ? 1 : 4, none);
        }
    }

    private static void zoneOfExtremes() {
        CHECK.sentence("II: zone: likewise (greatest, least VALUE, be they the least and the greatest that can be)");
        BoardSums x = Check.of(2, 2, ANY_VALUE + "f=zone most e e;g=zone least e e;h=zone sum e e;i=zone count e e");
        tellAny(x, 0, 0, -GREATEST);
        tellAny(x, 1, 1, GREATEST);
        for (int board = 5; board < 8; board++) {
            CHECK.due("the least of all in " + board, x.cell(board, 0, 0), -GREATEST);
            CHECK.due("the greatest of all in " + board, x.cell(board, 1, 1), GREATEST);
        }
        CHECK.due("count", x.cell(8, 1, 1), 1);
    }

    private static void zoneOfOneCell() {
        CHECK.sentence("II: zone: where b has the same VALUE as here, be it here alone");
        int[][] spots = {{0, 0}, {11, 0}, {0, 11}, {11, 11}, {6, 6}};
        for (int[] s : spots) {
            BoardSums x = Check.of(12, 12, "a=sheet 0;b=sheet 1;c=fill b 8;d=zone sum a c;e=zone count a c");
            x.tell(0, s[0], s[1], 5);
            x.tell(1, s[0], s[1], 9);
            CHECK.due("sum of one", x.cell(3, s[0], s[1]), 5);
            CHECK.due("count of one", x.cell(4, s[0], s[1]), 1);
            x.tell(0, s[0], s[1], 6);
            CHECK.due("sum of one again", x.cell(3, s[0], s[1]), 6);
            x.tell(1, s[0], s[1], 7);
            CHECK.due("in another zone alone", x.cell(3, s[0], s[1]), 6);
            x.tell(0, s[0], s[1], GAP);
            CHECK.due("sum of none", x.cell(3, s[0], s[1]), GAP);
            CHECK.due("count of none", x.cell(4, s[0], s[1]), 0);
            CHECK.due("the others have none either", x.cell(3, 5, 5), GAP);
        }
    }

    private static void wayGap() {
        CHECK.sentence("II: way a b: a GAP, where b is one");
        BoardSums x = Check.of(3, 2, "a=sheet 0;b=sheet 1;c=way a b");
        Check.tellAll(x, 0, new Integer[][] {{1, 1, G}});
        Check.tellAll(x, 1, new Integer[][] {{5, G, G}});
        row("way", x, 2, 0, 0, GAP, GAP);
        row("way", x, 2, 1, GAP, GAP, GAP);
    }

    private static void wayZero() {
        CHECK.sentence("II: way a b: 0, where a's VALUE is above 0");
        BoardSums x = Check.of(9, 2, "a=sheet 0;b=sheet 1;c=way a b");
        Check.tellAll(x, 0, new Integer[][] {{1, G, 0, G, -1, G, 1000000, G, G}});
        Check.tellAll(x, 1, new Integer[][] {{7, G, 7, G, 7, G, -7, G, 7}});
        row("way", x, 2, 0, 0, GAP, GAP, GAP, GAP, GAP, 0, GAP, GAP);
        int[][] spots = {{0, 0}, {11, 0}, {0, 11}, {11, 11}, {6, 6}};
        for (int[] s : spots) {
            BoardSums y = Check.of(12, 12, "a=sheet 0;b=sheet 1;c=way a b");
            y.tell(1, s[0], s[1], 3);
            CHECK.due("not above 0 yet", y.cell(2, s[0], s[1]), GAP);
            y.tell(0, s[0], s[1], 1);
            CHECK.due("one alone", y.cell(2, s[0], s[1]), 0);
            y.tell(0, s[0], s[1], 0);
            CHECK.due("no more", y.cell(2, s[0], s[1]), GAP);
        }
    }

    private static void wayComesInto() {
        CHECK.sentence("II: way: of b's VALUES of CELLS that are come into");
        BoardSums x = Check.of(4, 2, "a=sheet 0;b=sheet 1;c=way a b");
        Check.tellAll(x, 0, new Integer[][] {{1, 0, G, -1}});
        Check.tellAll(x, 1, new Integer[][] {{100, 10, 0, 1}});
        row("not the first's", x, 2, 0, 0, 10, 10, 11);
        x.tell(0, 0, 0, 0);
        x.tell(0, 3, 0, 1);
        row("there and not back", x, 2, 0, 110, 10, 0, 0);
    }

    private static void wayBelowZero() {
        CHECK.sentence("II: way: (below 0: 0)");
        BoardSums x = Check.of(5, 2, "a=sheet 0;b=sheet 1;c=way a b");
        Check.tellAll(x, 0, new Integer[][] {{1}});
        Check.tellAll(x, 1, new Integer[][] {{-9, -1, 3, -1000000, 2}, {G, 4, G, G, G}});
        row("way", x, 2, 0, 0, 0, 3, 3, 5);
        row("way", x, 2, 1, GAP, 4, GAP);
    }

    private static void wayFromWhereNoGap() {
        CHECK.sentence("II: way: from such a CELL (where b is no GAP)");
        BoardSums x = Check.of(4, 2, "a=sheet 0;b=sheet 1;c=way a b");
        Check.tellAll(x, 0, new Integer[][] {{5, G, G, 5}});
        Check.tellAll(x, 1, new Integer[][] {{G, 1, 1, 1}});
        row("from the right alone", x, 2, 0, GAP, 2, 1, 0);
        x.tell(1, 3, 0, GAP);
        row("from none", x, 2, 0, GAP, GAP, GAP, GAP);
    }

    private static void wayFromSideToSide() {
        CHECK.sentence("II: way: from side to side");
        BoardSums x = Check.of(3, 3, "a=sheet 0;b=sheet 1;c=way a b");
        Check.tellAll(x, 0, new Integer[][] {{}, {G, 1}});
        Check.tellAll(x, 1, new Integer[][] {{8, 4, 8}, {3, 9, 1}, {8, 2, 8}});
        row("down", x, 2, 0, 11, 4, 9);
        row("left and right", x, 2, 1, 3, 0, 1);
        row("up", x, 2, 2, 10, 2, 9);
        for (int w = 2; w <= 12; w++) {
            BoardSums y = Check.of(w, 3, "a=sheet 0;b=sheet 1;c=way a b");
            y.tell(0, w - 1, 1, 1);
            y.tell(1, w - 1, 1, 1);
            y.tell(1, 0, 2, 1);
            y.tell(1, w - 2, 0, 1);
            CHECK.due("not around the side to the next row", y.cell(2, 0, 2), GAP);
            CHECK.due("not over a corner", y.cell(2, w - 2, 0), GAP);
            y.tell(1, w - 1, 1, GAP);
            y.tell(1, w - 2, 0, GAP);
            y.tell(0, 0, 1, 1);
            y.tell(1, 0, 1, 1);
            y.tell(1, w - 1, 0, 1);
            y.tell(1, 1, 2, 1);
            y.tell(1, 0, 2, GAP);
            CHECK.due("not around the side to the row below", y.cell(2, w - 1, 0), GAP);
            CHECK.due("not over the other corner", y.cell(2, 1, 2), GAP);
        }
    }

    private static void wayNoneLeads() {
        CHECK.sentence("II: way: a GAP, if none leads there");
        BoardSums x = Check.of(12, 12, "a=sheet 0;b=sheet 1;c=way a b");
        for (int i = 0; i < 12; i++) {
            x.tell(1, i, 0, 1);
            x.tell(1, i, 2, 1);
        }
        CHECK.due("there is no such cell", x.cell(2, 0, 0), GAP);
        x.tell(0, 0, 0, 1);
        CHECK.due("within", x.cell(2, 11, 0), 11);
        CHECK.due("beyond the gaps", x.cell(2, 0, 2), GAP);
        x.tell(1, 11, 1, 0);
        CHECK.due("over the one bridge", x.cell(2, 0, 2), 23);
    }

    private static void wayLeast() {
        CHECK.sentence("II: way: the least sum over ways");
        BoardSums x = Check.of(5, 3, "a=sheet 0;b=sheet 1;c=way a b");
        Check.tellAll(x, 0, new Integer[][] {{1}});
        Check.tellAll(x, 1, new Integer[][] {{1, 50, 50, 50, 1}, {1, 60, 60, 60, 1}, {1, 1, 1, 1, 1}});
        row("the long way about", x, 2, 0, 0, 50, 100, 58, 8);
        row("beside it", x, 2, 1, 1, 61, 64, 65, 7);
        x.tell(0, 4, 0, 1);
        row("from the nearer one", x, 2, 0, 0, 50, 100, 50, 0);
        row("from the nearer one", x, 2, 2, 2, 3, 4, 3, 2);
    }

    private static void wayWinds() {
        CHECK.sentence("II: way: the least sum over ways, however they wind");
        BoardSums x = Check.of(12, 12, "a=sheet 0;b=sheet 1;c=way a b");
        for (int y = 0; y < 12; y++) {
            for (int i = y % 2 == 0 ? 0 : 11; i < 12; i++) {
                x.tell(1, y % 4 < 2 ? i : 11 - i, y, 1);
            }
        }
        x.tell(0, 0, 0, 1);
        CHECK.due("to and fro, to the last gate", x.cell(2, 0, 11), 77);
        x.tell(0, 0, 0, 0);
        x.tell(0, 0, 11, 1);
        CHECK.due("and all the way back", x.cell(2, 0, 0), 77);
        BoardSums y = Check.of(12, 12, "a=sheet 0;b=sheet 1;c=way a b");
        for (int u = 0; u < 12; u++) {
            for (int i = u % 2 == 0 ? 0 : 11; i < 12; i++) {
                y.tell(1, u, u % 4 < 2 ? i : 11 - i, 1);
            }
        }
        y.tell(0, 0, 0, 1);
        CHECK.due("up and down, to the last gate", y.cell(2, 11, 0), 77);
    }

    private static void flowGap() {
        CHECK.sentence("II: flow a: a GAP, where a is one");
        BoardSums x = Check.of(3, 2, "a=sheet 0;b=flow a");
        Check.tellAll(x, 0, new Integer[][] {{3, G, 1}});
        row("a gap is not flowed to", x, 1, 0, 1, GAP, 1);
        row("gaps", x, 1, 1, GAP, GAP, GAP);
    }

    private static void flowOneAlone() {
        CHECK.sentence("II: flow: it has 1");
        int[][] spots = {{0, 0}, {11, 0}, {0, 11}, {11, 11}, {5, 5}};
        for (int value : new int[] {-1000000, -1, 0, 1, 1000000}) {
            for (int[] s : spots) {
                BoardSums x = Check.of(12, 12, "a=sheet 0;b=flow a");
                x.tell(0, s[0], s[1], value);
                CHECK.due("flow of " + value + " alone", x.cell(1, s[0], s[1]), 1);
            }
        }
    }

    private static BoardSums middle(int value) {
        BoardSums x = Check.of(3, 3, "a=sheet 0;b=flow a");
        x.tell(0, 1, 1, value);
        return x;
    }

    private static int flowAt(BoardSums x, int side) {
        return x.cell(1, 1 + SIDES[side][0], 1 + SIDES[side][1]);
    }

    private static void tellSide(BoardSums x, int side, int value) {
        x.tell(0, 1 + SIDES[side][0], 1 + SIDES[side][1], value);
    }

    private static void flowToTheLeast() {
        CHECK.sentence("II: flow: to that CELL at one of its sides with the least VALUE (no GAP)");
        for (int least = 0; least < 4; least++) {
            BoardSums x = middle(5);
            for (int side = 0; side < 4; side++) {
                tellSide(x, side, side == least ? 1 : 2);
            }
            for (int side = 0; side < 4; side++) {
                CHECK.due("side " + side + ", least " + least, flowAt(x, side), side == least ? 2 : 1);
            }
            for (int side = 0; side < 4; side++) {
                tellSide(x, side, side == least ? 4 : GAP);
            }
            CHECK.due("side " + least + " alone", flowAt(x, least), 2);
        }
        BoardSums x = middle(-999999);
        tellSide(x, 2, -1000000);
        CHECK.due("to the least that can be told", flowAt(x, 2), 2);
    }

    private static void flowIfLess() {
        CHECK.sentence("II: flow: if that is less than its own");
        for (int side = 0; side < 4; side++) {
            BoardSums x = middle(5);
            tellSide(x, side, 5);
            CHECK.due("an alike one at " + side, flowAt(x, side), 1);
            CHECK.due("the middle", x.cell(1, 1, 1), 1);
            tellSide(x, side, 6);
            CHECK.due("a greater one at " + side, flowAt(x, side), 1);
            CHECK.due("flows to the middle", x.cell(1, 1, 1), 2);
            tellSide(x, side, 4);
            CHECK.due("one less at " + side, flowAt(x, side), 2);
            CHECK.due("the middle again", x.cell(1, 1, 1), 1);
        }
    }

    private static void flowOfAlike() {
        CHECK.sentence("II: flow: (of alike ones right, up (y + 1), left, down)");
        for (int first = 0; first < 4; first++) {
            for (int second = first + 1; second < 4; second++) {
                BoardSums x = middle(5);
                tellSide(x, first, 1);
                tellSide(x, second, 1);
                CHECK.due("side " + first + " ahead of " + second, flowAt(x, first), 2);
                CHECK.due("side " + second + " behind " + first, flowAt(x, second), 1);
            }
            BoardSums x = middle(5);
            for (int side = first; side < 4; side++) {
                tellSide(x, side, 1);
            }
            CHECK.due("the first of those from " + first, flowAt(x, first), 2);
        }
    }

    private static void flowFromSideToSide() {
        CHECK.sentence("II: flow: at one of its sides, not over a corner or around the board's sides");
        for (int w = 2; w <= 12; w++) {
            BoardSums x = Check.of(w, 3, "a=sheet 0;b=flow a");
            x.tell(0, w - 1, 1, 5);
            x.tell(0, 0, 2, 1);
            x.tell(0, w - 2, 0, 1);
            CHECK.due("to the next row", x.cell(1, 0, 2), 1);
            CHECK.due("over a corner", x.cell(1, w - 2, 0), 1);
            x.tell(0, w - 1, 1, GAP);
            x.tell(0, 0, 1, 5);
            x.tell(0, 0, 2, GAP);
            x.tell(0, w - 2, 0, GAP);
            x.tell(0, w - 1, 0, 1);
            x.tell(0, 1, 2, 1);
            CHECK.due("to the row below", x.cell(1, w - 1, 0), 1);
            CHECK.due("over the other corner", x.cell(1, 1, 2), 1);
        }
    }

    private static void flowAllThatFlows() {
        CHECK.sentence("II: flow: it has 1 and all that flows to it");
        BoardSums x = Check.of(12, 12, "a=sheet 0;b=flow a");
        // To and fro between walls of gaps, each with one gate.
        int value = 200;
        for (int y = 0; y < 12; y++) {
            for (int i = y % 2 == 0 ? 0 : 11; i < 12; i++) {
                x.tell(0, y % 4 < 2 ? i : 11 - i, y, value--);
            }
        }
        CHECK.due("the first cell", x.cell(1, 0, 0), 1);
        CHECK.due("the first row's end", x.cell(1, 11, 0), 12);
        CHECK.due("the first gate", x.cell(1, 11, 1), 13);
        CHECK.due("the last row's end", x.cell(1, 0, 10), 77);
        CHECK.due("the last gate", x.cell(1, 0, 11), 78);
        BoardSums star = Check.of(3, 3, "a=sheet 0;b=flow a");
        Check.tellAll(star, 0, new Integer[][] {{9, 5, 9}, {5, 1, 5}, {9, 5, 9}});
        row("corners to their right, up, left sides", star, 1, 0, 1, 2, 1);
        row("from all sides", star, 1, 1, 1, 9, 2);
        row("from two corners", star, 1, 2, 1, 3, 1);
        BoardSums row = Check.of(12, 2, "a=sheet 0;b=flow a");
        for (int u = 0; u < 12; u++) {
            row.tell(0, u, 0, -u);
        }
        row("down a long row", row, 1, 0, 1, 2, 3, 4, 5, 6, 7, 8, 9, 10, 11, 12);
    }

    private static void cellMade() {
        CHECK.sentence("9: A CELL of a BOARD (its TILE is MADE, if it is not FRESH)");
        BoardSums x = Check.of(5, 5, "a=sheet 0;b=fill a 2");
        CHECK.due("cell", x.cell(1, 4, 4), 2);
        CHECK.due("made", x.made(), 2);
        CHECK.due("fresh", x.fresh(1, 4), 1);
        CHECK.due("again", x.cell(1, 4, 4), 2);
        CHECK.due("not made again", x.made(), 2);
        CHECK.due("another cell of one tile", x.cell(1, 0, 3), 2);
        CHECK.due("and one more", x.cell(1, 3, 0), 2);
        CHECK.due("made once", x.made(), 4);
        x.tell(0, 4, 4, 8);
        CHECK.due("fresh no more", x.cell(1, 4, 4), 8);
        CHECK.due("made again", x.made(), 6);
        CHECK.due("a gap", x.cell(0, 0, 0), GAP);
        CHECK.due("a gap's tile is made too", x.made(), 6);
        CHECK.due("a gap of another tile", x.cell(0, 4, 0), GAP);
        CHECK.due("it is made", x.made(), 7);
    }

    private static void cellWithout() {
        CHECK.sentence("9: GAP (without, too)");
        BoardSums none = new BoardSums();
        CHECK.due("no text", none.cell(0, 0, 0), GAP);
        BoardSums x = Check.of(6, 3, "a=sheet 0;b=fill a 2");
        x.back(0);
        int[][] without = {{2, 0, 0}, {-1, 0, 0}, {9, 0, 0}, {10, 0, 0}, {MIN, 0, 0}, {MAX, 0, 0}, {1, 6, 0},
            {1, 0, 3}, {1, -1, 0}, {1, 0, -1}, {1, MIN, 0}, {1, 0, MIN}, {1, MAX, 0}, {1, 0, MAX}, {1, 8, 2},
            {-1, -1, -1}, {2, 6, 3}};
        for (int[] c : without) {
            CHECK.due("cell(" + c[0] + ", " + c[1] + ", " + c[2] + ")", x.cell(c[0], c[1], c[2]), GAP);
        }
        CHECK.due("nothing is made", x.made(), 0);
        CHECK.due("nothing is fresh", x.count(5), 0);
        CHECK.due("status stays", x.status(), -6);
        CHECK.due("the last board's last cell", x.cell(1, 5, 2), 2);
    }
}
