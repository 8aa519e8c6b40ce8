/** Terms I and promises 1 to 4: each sentence that names an edge of sides, cells, tiles, values or refusals. */
public final class CellEdgesTest {
    private static final int GAP = BoardSums.GAP;
    private static final int MIN = Integer.MIN_VALUE;
    private static final int MAX = Integer.MAX_VALUE;
    /** The last ones are 2, 5 and 12, if all but their lowest bits are lost. */
    private static final int[] NO_SIDES = {1, 13, 0, -1, -2, -12, MIN, MAX, 258, 65541, MIN + 12};
    private static final Check CHECK = new Check();

    public static void main(String[] args) {
        sidesFromTwoToTwelve();
        eightAtFirst();
        cellsWithinSides();
        valuesToTheGreatest();
        tilesAsFarAsThereAre();
        tilesNumbered();
        sheetsFromNoneToThree();
        toldValues();
        sheetsGapsAtFirst();
        refusedByTheFirst();
        newObjectAllGaps();
        newObjectNoText();
        sizeMakesGaps();
        sizeForgetsImages();
        sizeLeavesNoTileFresh();
        sizeRefused();
        tellOneCell();
        tellGap();
        tellRefusedBySheet();
        tellRefusedByValue();
        tellRefusedByCell();
        tellRefusedTellsNothing();
        toldWithout();
        CHECK.end();
    }

    private static void sidesFromTwoToTwelve() {
        CHECK.sentence("I: BOARDS have W times H CELLS (2 .. 12 each)");
        BoardSums x = new BoardSums();
        int[][] sides = {{2, 2}, {2, 12}, {12, 2}, {12, 12}, {3, 11}};
        for (int[] s : sides) {
            CHECK.due("size(" + s[0] + ", " + s[1] + ")", x.size(s[0], s[1]), 0);
            CHECK.due("W of it", x.count(0), s[0]);
            CHECK.due("H of it", x.count(1), s[1]);
        }
        for (int n : NO_SIDES) {
            CHECK.due("size(" + n + ", 5)", x.size(n, 5), -1);
            CHECK.due("size(5, " + n + ")", x.size(5, n), -1);
            CHECK.due("size(" + n + ", " + n + ")", x.size(n, n), -1);
        }
        CHECK.due("W stays", x.count(0), 3);
        CHECK.due("H stays", x.count(1), 11);
    }

    private static void eightAtFirst() {
        CHECK.sentence("I: 8, 8 at first");
        BoardSums x = new BoardSums();
        CHECK.due("W", x.count(0), 8);
        CHECK.due("H", x.count(1), 8);
        CHECK.due("tell of the last cell", x.tell(0, 7, 7, 1), 0);
        CHECK.due("tell right of it", x.tell(0, 8, 7, 1), -2);
        CHECK.due("tell above it", x.tell(0, 7, 8, 1), -2);
    }

    private static void cellsWithinSides() {
        CHECK.sentence("I: x 0 .. W - 1, y 0 .. H - 1");
        int[][] sides = {{3, 5}, {5, 3}, {12, 2}, {2, 12}, {12, 12}, {4, 8}};
        for (int[] s : sides) {
            int w = s[0];
            int h = s[1];
            int[][] there = {{0, 0}, {w - 1, 0}, {0, h - 1}, {w - 1, h - 1}};
            for (int[] c : there) {
                cellIs(w, h, c[0], c[1], true);
            }
            int[][] beyond = {{w, 0}, {0, h}, {-1, 0}, {0, -1}, {w, h - 1}, {w - 1, h}, {w, h}, {-1, h - 1},
                {w - 1, -1}, {13, 0}, {0, 13}, {14, 0}, {-1, 1}, {w, -1}, {MIN, 0}, {0, MIN}, {MAX, 0}, {0, MAX},
                {MIN, MIN}, {MAX, MAX}, {256, 0}, {0, 65536}};
            for (int[] c : beyond) {
                cellIs(w, h, c[0], c[1], false);
            }
        }
    }

    private static void cellIs(int w, int h, int u, int v, boolean isThere) {
        BoardSums x = Check.of(w, h, "a=sheet 0;b=fill a 6");
        String at = w + " times " + h + " at " + u + ", " + v;
        CHECK.due("cell of " + at, x.cell(1, u, v), isThere ? 6 : GAP);
        CHECK.due("made of " + at, x.made(), isThere ? 2 : 0);
        CHECK.due("tell of " + at, x.tell(0, u, v, 4), isThere ? 0 : -2);
        CHECK.due("told of " + at, x.told(0, u, v), isThere ? 4 : GAP);
        CHECK.due("cell told of " + at, x.cell(1, u, v), isThere ? 4 : GAP);
    }

    private static void valuesToTheGreatest() {
        CHECK.sentence("I: a CELL has a VALUE (-1,000,000,000 .. 1,000,000,000) or is a GAP");
        BoardSums x = Check.of(4, 2, "a=sheet 0;b=sheet 1;c=times a b;d=sheet 2;e=add c d");
        for (int sign = -1; sign <= 1; sign += 2) {
            for (int u = 0; u < 4; u++) {
                x.tell(0, u, 0, sign * 1000000);
                x.tell(1, u, 0, 1000);
                x.tell(2, u, 0, sign * (u - 2));
            }
            CHECK.due("two within", x.cell(4, 0, 0), sign * 999999998);
            CHECK.due("one within", x.cell(4, 1, 0), sign * 999999999);
            CHECK.due("the greatest", x.cell(4, 2, 0), sign * 1000000000);
            CHECK.due("one beyond", x.cell(4, 3, 0), GAP);
        }
    }

    private static void tilesAsFarAsThereAre() {
        CHECK.sentence("I: TILES are 4 times 4 CELLS (as far as there are)");
        for (int w = 2; w <= 12; w++) {
            for (int h = 2; h <= 12; h++) {
                BoardSums x = Check.of(w, h, "a=sheet 0;b=fill a 3;c=zone count b b;d=flow b");
                for (int tile = 0; tile < 9; tile++) {
                    boolean isThere = tile % 3 * 4 < w && tile / 3 * 4 < h;
                    CHECK.due("tile " + tile + " of " + w + " times " + h, x.fresh(0, tile), isThere ? 0 : -1);
                }
                CHECK.due("tiles of " + w + " times " + h, x.count(3), (w + 3) / 4 * ((h + 3) / 4));
                CHECK.due("last cell of " + w + " times " + h, x.cell(1, w - 1, h - 1), 3);
                CHECK.due("filled cells of " + w + " times " + h, x.cell(2, 0, 0), w * h);
                CHECK.due("flow to the last of " + w + " times " + h, x.cell(3, w - 1, h - 1), 1);
            }
        }
    }

    private static void tilesNumbered() {
        CHECK.sentence("I: numbered y / 4 * 3 + x / 4 (0 .. 8)");
        for (int v = 0; v < 12; v++) {
            for (int u = 0; u < 12; u++) {
                BoardSums x = Check.of(12, 12, "a=sheet 0");
                x.cell(0, u, v);
                CHECK.due("tile of " + u + ", " + v, Check.freshBits(x, 0), 1 << v / 4 * 3 + u / 4);
            }
        }
        BoardSums x = Check.of(5, 9, "a=sheet 0");
        x.cell(0, 4, 8);
        CHECK.due("the number comes not from W", Check.freshBits(x, 0), 1 << 7);
    }

    private static void sheetsFromNoneToThree() {
        CHECK.sentence("I: SHEETS 0 .. 3 are told CELL by CELL");
        BoardSums x = new BoardSums();
        for (int sheet = 0; sheet < 4; sheet++) {
            CHECK.due("tell of sheet " + sheet, x.tell(sheet, 1, 1, 10 + sheet), 0);
        }
        for (int sheet = 0; sheet < 4; sheet++) {
            CHECK.due("told of sheet " + sheet, x.told(sheet, 1, 1), 10 + sheet);
        }
        for (int sheet : new int[] {-1, 4, 5, MIN, MAX, 256, MIN + 1}) {
            CHECK.due("tell of sheet " + sheet, x.tell(sheet, 1, 1, 5), -1);
            CHECK.due("told of sheet " + sheet, x.told(sheet, 1, 1), GAP);
        }
    }

    private static void toldValues() {
        CHECK.sentence("I: -1,000,000 .. 1,000,000, or GAP");
        BoardSums x = new BoardSums();
        for (int value : new int[] {-1000000, -999999, -1, 0, 1, 999999, 1000000, GAP}) {
            CHECK.due("tell of " + value, x.tell(0, 0, 0, value), 0);
            CHECK.due("told of " + value, x.told(0, 0, 0), value);
        }
        x.tell(0, 0, 0, 77);
        int[] beyond = {-1000001, 1000001, -1000000000, 1000000000, GAP - 1, GAP + 1, -GAP, MIN, MAX};
        for (int value : beyond) {
            CHECK.due("tell of " + value, x.tell(0, 0, 0, value), -1);
            CHECK.due("told stays at " + value, x.told(0, 0, 0), 77);
        }
    }

    private static void sheetsGapsAtFirst() {
        CHECK.sentence("I: all GAPS at first");
        BoardSums x = new BoardSums();
        for (int sheet = 0; sheet < 4; sheet++) {
            for (int place = 0; place < 64; place++) {
                CHECK.due("told of sheet " + sheet, x.told(sheet, place % 8, place / 8), GAP);
            }
        }
    }

    private static void refusedByTheFirst() {
        CHECK.sentence("I: REFUSED by the first of these in that order");
        BoardSums x = new BoardSums();
        CHECK.due("tell: no sheet, no cell", x.tell(4, 8, 0, 0), -1);
        CHECK.due("tell: no value, no cell", x.tell(0, 0, -1, 1000001), -1);
        CHECK.due("tell: no sheet, no value, no cell", x.tell(-1, -1, -1, MIN), -1);
        CHECK.due("its status", x.status(), -1);
        CHECK.due("tell: no cell alone", x.tell(0, 8, 8, 0), -2);
        CHECK.due("its status", x.status(), -2);
        CHECK.due("back: no image, none kept", x.back(3), -1);
        CHECK.due("its status", x.status(), -1);
        CHECK.due("back: none kept alone", x.back(2), -6);
        CHECK.due("its status", x.status(), -6);
    }

    private static void newObjectAllGaps() {
        CHECK.sentence("1: 8 times 8 CELLS, all GAPS");
        BoardSums x = new BoardSums();
        CHECK.due("W", x.count(0), 8);
        CHECK.due("H", x.count(1), 8);
        CHECK.due("tiles", x.count(3), 4);
        Check.boards(x, "a=sheet 0;b=sheet 1;c=sheet 2;d=sheet 3;e=near 3 count a;f=near 3 count d");
        for (int board = 0; board < 4; board++) {
            CHECK.due("first cell of sheet " + board, x.cell(board, 0, 0), GAP);
            CHECK.due("last cell of sheet " + board, x.cell(board, 7, 7), GAP);
        }
        CHECK.due("no cell that is none", x.cell(4, 3, 3) + x.cell(4, 7, 7) + x.cell(5, 3, 3) + x.cell(5, 7, 7), 0);
        Check.boards(x, "a=sheet 0;b=fill a 0;c=zone count b b;d=fill a 5;e=flow d;f=near 3 count d;g=way a d");
        CHECK.due("cells in a zone of all", x.cell(2, 7, 7), 64);
        CHECK.due("no lower cell beyond", x.cell(4, 7, 7), 1);
        CHECK.due("none to count beyond", x.cell(5, 7, 7), 16);
        x.tell(0, 7, 0, 1);
        CHECK.due("no way beyond", x.cell(6, 0, 7), 14 * 5);
    }

    private static void newObjectNoText() {
        CHECK.sentence("1: no TEXT");
        BoardSums x = new BoardSums();
        CHECK.due("boards", x.count(2), 0);
        CHECK.due("bytes of the tape", x.count(4), 0);
        CHECK.due("fresh tiles", x.count(5), 0);
        CHECK.due("cell", x.cell(0, 0, 0), GAP);
        CHECK.due("fresh", x.fresh(0, 0), -1);
        CHECK.due("from", x.from(0, 0, 0), -1);
        CHECK.due("made", x.made(), 0);
        CHECK.due("fault", x.fault(), -1);
        CHECK.due("end(1)", x.end(1), -1);
        CHECK.due("status", x.status(), 0);
        CHECK.due("boards of none", x.boards(), -6);
    }

    private static void sizeMakesGaps() {
        CHECK.sentence("2: all SHEETS are GAPS");
        int[][] sides = {{12, 12}, {2, 2}, {3, 12}};
        for (int[] s : sides) {
            BoardSums x = Check.of(12, 12, "a=sheet 0;b=sheet 1;c=sheet 2;d=sheet 3");
            for (int sheet = 0; sheet < 4; sheet++) {
                x.tell(sheet, 0, 0, 5);
                x.tell(sheet, 1, 1, 6);
                x.tell(sheet, 11, 11, 7);
            }
            CHECK.due("size", x.size(s[0], s[1]), 0);
            for (int sheet = 0; sheet < 4; sheet++) {
                CHECK.due("told at 0, 0", x.told(sheet, 0, 0), GAP);
                CHECK.due("told at 1, 1", x.told(sheet, 1, 1), GAP);
                CHECK.due("cell at 1, 1", x.cell(sheet, 1, 1), GAP);
            }
            x.size(12, 12);
            CHECK.due("told at 11, 11, wide again", x.told(3, 11, 11), GAP);
        }
    }

    private static void sizeForgetsImages() {
        CHECK.sentence("2: IMAGES gone");
        BoardSums x = new BoardSums();
        for (int k = 0; k < 3; k++) {
            x.image(k);
        }
        CHECK.due("size as it was", x.size(8, 8), 0);
        for (int k = 0; k < 3; k++) {
            CHECK.due("back(" + k + ")", x.back(k), -6);
        }
        x.image(1);
        CHECK.due("kept since then", x.back(1), 0);
        CHECK.due("the others are not", x.back(0), -6);
    }

    private static void sizeLeavesNoTileFresh() {
        CHECK.sentence("2: no TILE is FRESH");
        BoardSums x = Check.of(8, 8, "a=sheet 0;b=fill a 1;c=zone sum b b;d=near 1 sum b");
        for (int board = 0; board < 4; board++) {
            Check.askAll(x, board);
        }
        CHECK.due("fresh ahead of it", x.count(5), 16);
        CHECK.due("size as it was", x.size(8, 8), 0);
        CHECK.due("fresh", x.count(5), 0);
        for (int board = 0; board < 4; board++) {
            CHECK.due("fresh tiles of " + board, Check.freshBits(x, board), 0);
        }
        CHECK.due("made so far stays", x.made(), 16);
        CHECK.due("made anew", x.cell(3, 0, 0), 4);
        CHECK.due("made", x.made(), 16 + 4 + 4 + 1);
    }

    private static void sizeRefused() {
        CHECK.sentence("2: -1");
        BoardSums x = Check.of(6, 7, "a=sheet 0");
        x.tell(0, 5, 6, 9);
        x.image(2);
        x.cell(0, 5, 6);
        Check.feed(x, "b=");
        for (int n : NO_SIDES) {
            CHECK.due("size(" + n + ", 12)", x.size(n, 12), -1);
            CHECK.due("its status", x.status(), -1);
            CHECK.due("size(12, " + n + ")", x.size(12, n), -1);
        }
        CHECK.due("W stays", x.count(0), 6);
        CHECK.due("H stays", x.count(1), 7);
        CHECK.due("sheets stay", x.told(0, 5, 6), 9);
        CHECK.due("fresh tiles stay", Check.freshBits(x, 0), 1 << 4);
        CHECK.due("boards stay", x.count(2), 1);
        CHECK.due("the tape stays", x.count(4), 2);
        CHECK.due("images stay", x.back(2), 0);
    }

    private static void tellOneCell() {
        CHECK.sentence("3: A CELL of a SHEET is told: 0");
        BoardSums x = new BoardSums();
        x.size(12, 12);
        CHECK.due("tell", x.tell(2, 5, 7, 4), 0);
        CHECK.due("status", x.status(), 0);
        for (int place = 0; place < 144; place++) {
            int value = place == 7 * 12 + 5 ? 4 : GAP;
            CHECK.due("told at " + place, x.told(2, place % 12, place / 12), value);
        }
        CHECK.due("sheet 1", x.told(1, 5, 7), GAP);
        CHECK.due("sheet 3", x.told(3, 5, 7), GAP);
        CHECK.due("tell again", x.tell(2, 5, 7, -4), 0);
        CHECK.due("told again", x.told(2, 5, 7), -4);
        CHECK.due("tell as it is", x.tell(2, 5, 7, -4), 0);
        CHECK.due("told as it was", x.told(2, 5, 7), -4);
    }

    private static void tellGap() {
        CHECK.sentence("3: (GAP, too)");
        BoardSums x = Check.of(8, 8, "a=sheet 1");
        x.tell(1, 0, 0, 3);
        CHECK.due("cell ahead of it", x.cell(0, 0, 0), 3);
        CHECK.due("tell of a gap", x.tell(1, 0, 0, GAP), 0);
        CHECK.due("told", x.told(1, 0, 0), GAP);
        CHECK.due("cell", x.cell(0, 0, 0), GAP);
        CHECK.due("a gap where one is", x.tell(1, 1, 0, GAP), 0);
    }

    private static void tellRefusedBySheet() {
        CHECK.sentence("3: -1 SHEET");
        BoardSums x = new BoardSums();
        for (int sheet : new int[] {-1, 4, MIN, MAX}) {
            CHECK.due("tell of " + sheet, x.tell(sheet, 0, 0, 0), -1);
            CHECK.due("its status", x.status(), -1);
            CHECK.due("tell of a gap", x.tell(sheet, 0, 0, GAP), -1);
        }
    }

    private static void tellRefusedByValue() {
        CHECK.sentence("3: -1 VALUE");
        BoardSums x = new BoardSums();
        for (int value : new int[] {-1000001, 1000001, GAP - 1, GAP + 1, MIN, MAX}) {
            CHECK.due("tell of " + value, x.tell(3, 0, 0, value), -1);
            CHECK.due("its status", x.status(), -1);
        }
    }

    private static void tellRefusedByCell() {
        CHECK.sentence("3: -2");
        BoardSums x = new BoardSums();
        x.size(4, 9);
        int[][] beyond = {{-1, 0}, {0, -1}, {4, 0}, {0, 9}, {8, 3}, {MIN, 0}, {0, MAX}, {MAX, MIN}};
        for (int[] c : beyond) {
            CHECK.due("tell at " + c[0] + ", " + c[1], x.tell(0, c[0], c[1], 0), -2);
            CHECK.due("its status", x.status(), -2);
            CHECK.due("tell of a gap there", x.tell(0, c[0], c[1], GAP), -2);
        }
    }

    private static void tellRefusedTellsNothing() {
        CHECK.sentence("3: a refused tell tells nothing");
        BoardSums x = Check.of(4, 4, "a=sheet 0;b=near 3 count a");
        x.tell(0, 3, 3, 8);
        x.cell(1, 0, 0);
        x.tell(0, 3, 3, 1000001);
        x.tell(4, 3, 3, 5);
        x.tell(-1, 3, 3, 5);
        x.tell(0, 4, 3, 5);
        x.tell(0, 3, 4, 5);
        x.tell(0, -1, 3, 5);
        CHECK.due("told stays", x.told(0, 3, 3), 8);
        CHECK.due("told beside stays", x.told(0, 0, 3), GAP);
        CHECK.due("tiles stay fresh", x.count(5), 2);
        x.tell(0, 0, 0, 1);
        CHECK.due("two cells are none", x.cell(1, 1, 1), 2);
    }

    private static void toldWithout() {
        CHECK.sentence("4: GAP (without, too)");
        BoardSums x = new BoardSums();
        x.size(3, 2);
        for (int place = 0; place < 6; place++) {
            x.tell(0, place % 3, place / 3, place);
            x.tell(3, place % 3, place / 3, place);
        }
        CHECK.due("a gap", x.told(1, 0, 0), GAP);
        CHECK.due("first", x.told(0, 0, 0), 0);
        CHECK.due("last", x.told(3, 2, 1), 5);
        int[][] without = {{-1, 0, 0}, {4, 0, 0}, {MIN, 0, 0}, {MAX, 0, 0}, {0, -1, 0}, {0, 0, -1}, {0, 3, 0},
            {0, 0, 2}, {0, 2, 2}, {0, 3, 1}, {0, -1, 1}, {0, MIN, 0}, {0, 0, MIN}, {0, MAX, MAX}, {4, 3, 2}};
        x.boards();
        for (int[] c : without) {
            CHECK.due("told(" + c[0] + ", " + c[1] + ", " + c[2] + ")", x.told(c[0], c[1], c[2]), GAP);
        }
        CHECK.due("status stays", x.status(), -6);
    }
}
