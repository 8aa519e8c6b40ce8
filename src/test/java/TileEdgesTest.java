/** Terms III and promises 10 to 12: each sentence that names an edge of what is FRESH, MADE, NEEDED or come FROM. */
public final class TileEdgesTest {
    private static final int GAP = BoardSums.GAP;
    private static final int MIN = Integer.MIN_VALUE;
    private static final int MAX = Integer.MAX_VALUE;
    private static final String THREE = "a=sheet 0;b=sheet 1;c=sheet 2;d=";
    private static final String[] SAME = {"add a b", "less a b", "times a b", "least a b", "most a b", "where a b",
        "if a b c", "fill a 5"};
    private static final String[] WHOLE = {"zone sum a b", "zone count a b", "way a b", "flow a"};
    private static final Check CHECK = new Check();

    public static void main(String[] args) {
        noneFreshAtFirst();
        askedAndFresh();
        neededAndFresh();
        oneMade();
        needsOfTheSameTiles();
        needsOfNear();
        needsOfNearAtTheSides();
        needsOfAllTiles();
        needsOfSheet();
        toldTileIsLost();
        toldAsItIs();
        eachBoardOfThatSheet();
        lostWithWhatNeedsIt();
        lostOverAnySteps();
        lostBesideNear();
        madeAgainAsAnew();
        nothingLostByRefusedCalls();
        fromAsBits();
        fromOverAllSteps();
        fromOfNoneOfASheet();
        freshOneOrNone();
        freshWithout();
        fromWithout();
        madeInAll();
        CHECK.end();
    }

    /** How many boards, the first ones of THREE, a making names. */
    private static int named(String making) {
        return making.endsWith(" c") ? 3 : making.endsWith(" b") ? 2 : 1;
    }

    private static int around(int tile, int tiles) {
        int bits = 0;
        for (int t = 0; t < 9; t++) {
            boolean touches = Math.abs(t % 3 - tile % 3) <= 1 && Math.abs(t / 3 - tile / 3) <= 1;
            bits |= touches ? 1 << t & tiles : 0;
        }
        return bits;
    }

    private static int tilesOf(int w, int h) {
        int bits = 0;
        for (int t = 0; t < 9; t++) {
            bits |= t % 3 * 4 < w && t / 3 * 4 < h ? 1 << t : 0;
        }
        return bits;
    }

    private static void ask(BoardSums x, int board, int tile) {
        x.cell(board, tile % 3 * 4, tile / 3 * 4);
    }

    private static void noneFreshAtFirst() {
        CHECK.sentence("III: a TILE of a BOARD is FRESH or not (none is at first)");
        BoardSums x = Check.of(12, 12, THREE + "add a b");
        for (int board = 0; board < 4; board++) {
            for (int tile = 0; tile < 9; tile++) {
                CHECK.due("fresh(" + board + ", " + tile + ")", x.fresh(board, tile), 0);
            }
        }
        x.tell(0, 0, 0, 1);
        CHECK.due("telling makes none", x.count(5), 0);
        CHECK.due("none is made", x.made(), 0);
    }

    private static void askedAndFresh() {
        CHECK.sentence("III: One that is asked and isn't FRESH is MADE");
        for (String making : SAME) {
            askedTwice(making);
        }
        for (String making : WHOLE) {
            askedTwice(making);
        }
        askedTwice("near 2 sum a");
        askedTwice("sheet 0");
    }

    private static void askedTwice(String making) {
        BoardSums x = Check.of(12, 12, THREE + making);
        ask(x, 3, 4);
        int made = x.made();
        int fresh = x.count(5);
        CHECK.due(making + " is fresh", Check.freshBits(x, 3), 1 << 4);
        CHECK.due("as many are fresh as are made", fresh, made);
        for (int place = 0; place < 16; place++) {
            x.cell(3, 4 + place % 4, 4 + place / 4);
        }
        CHECK.due(making + " asked again is not made again", x.made(), made);
        CHECK.due("nor more fresh", x.count(5), fresh);
    }

    private static void neededAndFresh() {
        CHECK.sentence("III: first those that it NEEDS and that aren't FRESH");
        BoardSums x = Check.of(12, 12, THREE + "near 1 sum a;e=zone sum a b");
        ask(x, 0, 0);
        ask(x, 0, 1);
        ask(x, 0, 8);
        ask(x, 3, 0);
        CHECK.due("two of four were fresh", x.made(), 3 + 2 + 1);
        ask(x, 3, 1);
        CHECK.due("four of six were fresh", x.made(), 6 + 2 + 1);
        ask(x, 4, 2);
        CHECK.due("seven of nine and none of nine were fresh", x.made(), 9 + 2 + 9 + 1);
        ask(x, 4, 3);
        CHECK.due("all were fresh", x.made(), 22);
    }

    private static void oneMade() {
        CHECK.sentence("III: then itself (one MADE)");
        BoardSums x = Check.of(12, 12, "a=sheet 0;b=add a a;c=if b a b;d=near 3 most c;e=near 1 sum d");
        ask(x, 1, 0);
        CHECK.due("named twice, made once", x.made(), 2);
        ask(x, 2, 0);
        CHECK.due("reached on two ways, made once", x.made(), 3);
        ask(x, 3, 0);
        CHECK.due("a need that is there already", x.made(), 3 + 3 * 3 + 1);
        ask(x, 4, 4);
        CHECK.due("all of a, b, c, d and one of e", x.made(), 9 * 4 + 1);
        CHECK.due("fresh", x.count(5), 37);
    }

    private static void needsOfTheSameTiles() {
        CHECK.sentence("III: of add, less, times, least, most, where, if, fill the same TILES of the BOARDS named");
        for (String making : SAME) {
            for (int tile = 0; tile < 9; tile++) {
                BoardSums x = Check.of(12, 12, THREE + making);
                // Where a, b or c alone tells the value, all named are needed all the same.
                x.tell(0, tile % 3 * 4, tile / 3 * 4, tile % 2);
                ask(x, 3, tile);
                for (int board = 0; board < 3; board++) {
                    int bits = board < named(making) ? 1 << tile : 0;
                    CHECK.due(making + " needs of " + board, Check.freshBits(x, board), bits);
                    CHECK.due(making + " from " + board, x.from(3, tile, board), bits);
                }
                CHECK.due(making + " itself", Check.freshBits(x, 3), 1 << tile);
                CHECK.due(making + " made", x.made(), named(making) + 1);
            }
        }
    }

    private static void needsOfNear() {
        CHECK.sentence("III: of near r those TILES of a that have a CELL not farther than r from one of its own");
        for (int r = 1; r <= 3; r++) {
            for (int tile = 0; tile < 9; tile++) {
                BoardSums x = Check.of(12, 12, THREE + "near " + r + " count a");
                ask(x, 3, tile);
                int bits = around(tile, 511);
                CHECK.due("near " + r + " of " + tile, Check.freshBits(x, 0), bits);
                CHECK.due("near " + r + " from " + tile, x.from(3, tile, 0), bits);
                CHECK.due("itself alone", Check.freshBits(x, 3), 1 << tile);
                CHECK.due("made", x.made(), Integer.bitCount(bits) + 1);
            }
        }
    }

    private static void needsOfNearAtTheSides() {
        CHECK.sentence("III: of near r those TILES (as far as there are)");
        for (int w = 2; w <= 12; w++) {
            for (int h = 2; h <= 12; h++) {
                int tiles = tilesOf(w, h);
                BoardSums x = Check.of(w, h, "a=sheet 0;b=near " + (1 + w % 3) + " sum a");
                for (int tile = 0; tile < 9; tile++) {
                    int bits = (tiles >> tile & 1) != 0 ? around(tile, tiles) : -1;
                    CHECK.due("from of " + w + " times " + h + " at " + tile, x.from(1, tile, 0), bits);
                }
                x.cell(1, w - 1, h - 1);
                int last = (h - 1) / 4 * 3 + (w - 1) / 4;
                CHECK.due("made of " + w + " times " + h, x.made(), Integer.bitCount(around(last, tiles)) + 1);
            }
        }
    }

    private static void needsOfAllTiles() {
        CHECK.sentence("III: of zone, way, flow all TILES of the BOARDS named");
        int[][] sides = {{2, 2}, {5, 4}, {4, 9}, {9, 9}, {12, 12}};
        for (String making : WHOLE) {
            for (int[] s : sides) {
                BoardSums x = Check.of(s[0], s[1], THREE + making);
                int tiles = tilesOf(s[0], s[1]);
                x.cell(3, s[0] - 1, s[1] - 1);
                for (int board = 0; board < 3; board++) {
                    int bits = board < named(making) ? tiles : 0;
                    CHECK.due(making + " needs of " + board, Check.freshBits(x, board), bits);
                    CHECK.due(making + " from " + board, x.from(3, 0, board), bits);
                }
                CHECK.due(making + " itself alone", Integer.bitCount(Check.freshBits(x, 3)), 1);
                CHECK.due(making + " made", x.made(), named(making) * Integer.bitCount(tiles) + 1);
            }
        }
    }

    private static void needsOfSheet() {
        CHECK.sentence("III: of sheet none");
        BoardSums x = Check.of(12, 12, "a=sheet 0;b=sheet 0;c=sheet 1");
        ask(x, 1, 5);
        CHECK.due("made", x.made(), 1);
        CHECK.due("fresh", x.count(5), 1);
        CHECK.due("another board of that sheet", x.fresh(0, 5), 0);
    }

    private static void toldTileIsLost() {
        CHECK.sentence("III: As a CELL of a SHEET is told, that TILE of each BOARD that is that \"sheet\"");
        for (int place = 0; place < 144; place++) {
            BoardSums x = Check.of(12, 12, "a=sheet 2;b=sheet 1");
            Check.askAll(x, 0);
            Check.askAll(x, 1);
            x.tell(2, place % 12, place / 12, 5);
            int tile = place / 12 / 4 * 3 + place % 12 / 4;
            CHECK.due("told at " + place, Check.freshBits(x, 0), 511 & ~(1 << tile));
            CHECK.due("another sheet's board", Check.freshBits(x, 1), 511);
            CHECK.due("the value", x.cell(0, place % 12, place / 12), 5);
        }
    }

    private static void toldAsItIs() {
        CHECK.sentence("III: (also as it is already)");
        BoardSums x = Check.of(8, 8, "a=sheet 0;b=fill a 1");
        x.tell(0, 0, 0, 5);
        Check.askAll(x, 1);
        x.tell(0, 0, 0, 5);
        CHECK.due("a value as it is", Check.freshBits(x, 0), 0b11010);
        CHECK.due("what needs it", Check.freshBits(x, 1), 0b11010);
        x.tell(0, 7, 7, GAP);
        CHECK.due("a gap as it is", Check.freshBits(x, 0), 0b01010);
        CHECK.due("what needs it", Check.freshBits(x, 1), 0b01010);
        int made = x.made();
        x.cell(1, 0, 0);
        CHECK.due("made again", x.made(), made + 2);
    }

    private static void eachBoardOfThatSheet() {
        CHECK.sentence("III: of each BOARD that is that \"sheet\"");
        BoardSums x = Check.of(4, 4, "a=sheet 3;b=sheet 0;c=sheet 3;d=sheet 1;e=sheet 2;f=sheet 3");
        for (int sheet = 0; sheet < 4; sheet++) {
            for (int board = 0; board < 6; board++) {
                x.cell(board, 0, 0);
            }
            x.tell(sheet, 3, 3, 1);
            int[] of = {3, 0, 3, 1, 2, 3};
            for (int board = 0; board < 6; board++) {
                CHECK.due("board " + board + ", told " + sheet, x.fresh(board, 0), of[board] == sheet ? 0 : 1);
            }
        }
    }

    private static void lostWithWhatNeedsIt() {
        CHECK.sentence("III: nor any that NEEDS one that is not");
        for (String making : SAME) {
            for (int sheet = 0; sheet < 3; sheet++) {
                lost(making, sheet, sheet < named(making) ? 1 << 5 : 0);
            }
        }
        for (String making : WHOLE) {
            for (int sheet = 0; sheet < 3; sheet++) {
                lost(making, sheet, sheet < named(making) ? 511 : 0);
            }
        }
        for (int r = 1; r <= 3; r++) {
            lost("near " + r + " sum a", 0, around(5, 511));
            lost("near " + r + " sum a", 1, 0);
        }
    }

    /** All is fresh, then a cell of tile 5 is told: those tiles of the making are lost. */
    private static void lost(String making, int sheet, int bits) {
        BoardSums x = Check.of(12, 12, THREE + making);
        for (int board = 0; board < 4; board++) {
            Check.askAll(x, board);
        }
        x.tell(sheet, 9, 6, 4);
        CHECK.due(making + ", sheet " + sheet, Check.freshBits(x, 3), 511 & ~bits);
        CHECK.due(making + ", fresh in all", x.count(5), 36 - 1 - Integer.bitCount(bits));
    }

    private static void lostOverAnySteps() {
        CHECK.sentence("III: (over any steps)");
        BoardSums x = Check.of(12, 12, "a=sheet 0;b=fill a 0;c=fill b 0;d=fill c 0;e=fill d 0;f=fill e 0;g=fill f 0;"
            + "h=fill g 0;i=fill h 0;j=fill i 0");
        Check.askAll(x, 9);
        CHECK.due("all are fresh", x.count(5), 90);
        x.tell(0, 4, 4, 6);
        CHECK.due("one tile of each is lost", x.count(5), 80);
        CHECK.due("the last board's", x.fresh(9, 4), 0);
        CHECK.due("its value", x.cell(9, 4, 4), 6);
        CHECK.due("made again over nine steps", x.made(), 100);
        BoardSums y = Check.of(12, 12, "a=sheet 0;b=near 1 count a;c=near 1 count b;d=sheet 0;e=add c d;f=flow e");
        Check.askAll(y, 5);
        y.tell(0, 11, 11, 6);
        int[] left = {511 & ~256, 511 & ~around(8, 511), 0, 511 & ~256, 0, 0};
        for (int board = 0; board < 6; board++) {
            CHECK.due("left of " + board, Check.freshBits(y, board), left[board]);
        }
    }

    private static void lostBesideNear() {
        CHECK.sentence("III: what was not asked is not FRESH, and what does not need it stays FRESH");
        BoardSums x = Check.of(12, 12, "a=sheet 0;b=near 1 sum a;c=fill b 0");
        ask(x, 2, 0);
        ask(x, 2, 2);
        x.tell(0, 0, 11, 1);
        CHECK.due("a tile that is needed by none asked", x.count(5), 6 + 2 + 2);
        x.tell(0, 0, 7, 1);
        CHECK.due("a tile that one of them needs", Check.freshBits(x, 2), 4);
        CHECK.due("of b", Check.freshBits(x, 1), 4);
        CHECK.due("of a", Check.freshBits(x, 0), 0b110111);
        x.tell(0, 4, 0, 1);
        CHECK.due("the tile that both need", x.count(5), 4);
    }

    private static void madeAgainAsAnew() {
        CHECK.sentence("III: what is MADE again is as it would be if it had not been MADE before");
        for (String making : SAME) {
            againAsAnew(making);
        }
        for (String making : WHOLE) {
            againAsAnew(making);
        }
        againAsAnew("near 1 least a");
        againAsAnew("near 3 sum a");
        againAsAnew("sheet 0");
    }

    private static void againAsAnew(String making) {
        BoardSums again = Check.of(9, 5, THREE + making);
        BoardSums anew = Check.of(9, 5, THREE + making);
        for (int i = 0; i < 90; i++) {
            int sheet = i % 2;
            int value = i * i % 7 == 1 ? GAP : i * 5 % 11 - 3;
            again.tell(sheet, i * 4 % 9, i * 3 % 5, value);
            anew.tell(sheet, i * 4 % 9, i * 3 % 5, value);
            if (i % 10 == 9) {
                Check.askAll(again, 3);
            }
        }
        for (int place = 0; place < 45; place++) {
            int value = anew.cell(3, place % 9, place / 9);
            CHECK.due(making + " at " + place, again.cell(3, place % 9, place / 9), value);
        }
    }

    private static void nothingLostByRefusedCalls() {
        CHECK.sentence("III: only as a CELL of a SHEET is told");
        BoardSums x = Check.of(8, 8, "a=sheet 0;b=flow a");
        Check.askAll(x, 1);
        x.tell(0, 0, 0, 1000001);
        x.tell(0, 8, 0, 1);
        x.tell(4, 0, 0, 1);
        x.image(0);
        x.image(3);
        x.back(0);
        x.back(1);
        x.size(1, 8);
        x.boards();
        x.told(0, 0, 0);
        x.from(1, 0, 0);
        x.feed(0, 0, 0, 0, 0);
        CHECK.due("all stay fresh", x.count(5), 8);
        x.tell(3, 0, 0, 1);
        CHECK.due("a sheet that no board is", x.count(5), 8);
    }

    private static void fromAsBits() {
        CHECK.sentence("III: FROM: the TILES of a SHEET (as bits)");
        BoardSums x = Check.of(12, 12, "a=sheet 3;b=fill a 0");
        for (int tile = 0; tile < 9; tile++) {
            CHECK.due("sheet's tile " + tile, x.from(0, tile, 3), 1 << tile);
            CHECK.due("fill's tile " + tile, x.from(1, tile, 3), 1 << tile);
        }
        BoardSums y = Check.of(12, 12, "a=sheet 0;b=flow a");
        CHECK.due("all nine", y.from(1, 8, 0), 511);
        y.size(9, 4);
        CHECK.due("all three of a row", y.from(1, 2, 0), 0b111);
        y.size(4, 9);
        CHECK.due("all three of a column", y.from(1, 6, 0), 0b1001001);
        y.size(2, 2);
        CHECK.due("the one that is there", y.from(1, 0, 0), 1);
    }

    private static void fromOverAllSteps() {
        CHECK.sentence("III: FROM: that it NEEDS over all steps");
        BoardSums x = Check.of(12, 12, "a=sheet 0;b=sheet 1;c=near 1 sum a;d=add c b;e=near 1 sum d;f=if a e b;"
            + "g=sheet 0;h=where g b;i=zone sum h c");
        CHECK.due("near", x.from(2, 0, 0), 0b011011);
        CHECK.due("add of near", x.from(3, 0, 0), 0b011011);
        CHECK.due("add of a sheet", x.from(3, 0, 1), 1);
        CHECK.due("near of near", x.from(4, 0, 0), 511);
        CHECK.due("near of a sheet", x.from(4, 0, 1), 0b011011);
        CHECK.due("if: what is needed on several ways", x.from(5, 8, 1), 0b110110000);
        CHECK.due("two boards of one sheet, one needed", x.from(7, 4, 0), 16);
        BoardSums y = Check.of(12, 12, "a=sheet 0;b=near 1 sum a;c=sheet 0;d=add b c;e=add c b;f=sheet 0;g=fill d 0");
        CHECK.due("two boards of one sheet, the first needs more", y.from(3, 0, 0), 0b011011);
        CHECK.due("turned", y.from(4, 8, 0), 0b110110000);
        CHECK.due("and a third one that is not needed", y.from(6, 2, 0), 0b110110);
        CHECK.due("zone", x.from(8, 4, 0) & x.from(8, 4, 1), 511);
        CHECK.due("nothing is made", x.made(), 0);
        ask(x, 5, 0);
        CHECK.due("from does not look at what is fresh", x.from(5, 8, 1), 0b110110000);
    }

    private static void fromOfNoneOfASheet() {
        CHECK.sentence("III: FROM of a SHEET that it NEEDS nothing of: no bits");
        BoardSums x = Check.of(12, 12, "a=sheet 1;b=near 3 sum a;c=flow b;d=sheet 2");
        for (int board = 0; board < 3; board++) {
            CHECK.due("sheet 0", x.from(board, 4, 0), 0);
            CHECK.due("sheet 2", x.from(board, 4, 2), 0);
            CHECK.due("sheet 3", x.from(board, 4, 3), 0);
        }
        CHECK.due("sheet 1", x.from(3, 4, 1), 0);
    }

    private static void freshOneOrNone() {
        CHECK.sentence("10: Whether a TILE of a BOARD is FRESH: 1, 0");
        BoardSums x = Check.of(12, 12, "a=sheet 0;b=fill a 1");
        CHECK.due("not asked", x.fresh(1, 8), 0);
        CHECK.due("asking does not make it", x.fresh(1, 8), 0);
        CHECK.due("made", x.made(), 0);
        x.cell(1, 11, 11);
        CHECK.due("asked", x.fresh(1, 8), 1);
        CHECK.due("needed", x.fresh(0, 8), 1);
        CHECK.due("the first tile", x.fresh(1, 0), 0);
        x.tell(0, 8, 8, 0);
        CHECK.due("told", x.fresh(1, 8), 0);
    }

    private static void freshWithout() {
        CHECK.sentence("10: NONE (no such TILE, too)");
        BoardSums none = new BoardSums();
        CHECK.due("no text", none.fresh(0, 0), -1);
        BoardSums x = Check.of(5, 9, "a=sheet 0;b=sheet 1");
        x.back(0);
        int[][] without = {{2, 0}, {-1, 0}, {9, 0}, {10, 0}, {MIN, 0}, {MAX, 0}, {0, 9}, {0, -1}, {0, 2}, {0, 5},
            {0, 8}, {0, 32}, {0, 33}, {0, 64}, {0, -32}, {0, MIN}, {0, MAX}, {-1, -1}, {2, 9}};
        for (int[] c : without) {
            CHECK.due("fresh(" + c[0] + ", " + c[1] + ")", x.fresh(c[0], c[1]), -1);
        }
        int[] there = {0, 1, 3, 4, 6, 7};
        for (int tile : there) {
            CHECK.due("tile " + tile, x.fresh(1, tile), 0);
        }
        CHECK.due("status stays", x.status(), -6);
    }

    private static void fromWithout() {
        CHECK.sentence("11: FROM, of a SHEET; NONE");
        BoardSums none = new BoardSums();
        CHECK.due("no text", none.from(0, 0, 0), -1);
        BoardSums x = Check.of(5, 9, "a=sheet 0;b=sheet 1");
        x.back(0);
        int[][] without = {{2, 0, 0}, {-1, 0, 0}, {9, 0, 0}, {10, 0, 0}, {MIN, 0, 0}, {MAX, 0, 0}, {0, 9, 0},
            {0, -1, 0}, {0, 2, 0}, {0, 5, 0}, {0, 8, 0}, {0, 32, 0}, {0, MIN, 0}, {0, MAX, 0}, {0, 0, -1}, {0, 0, 4},
            {0, 0, MIN}, {0, 0, MAX}, {0, 0, 256}, {2, 9, 4}, {-1, -1, -1}};
        for (int[] c : without) {
            CHECK.due("from(" + c[0] + ", " + c[1] + ", " + c[2] + ")", x.from(c[0], c[1], c[2]), -1);
        }
        CHECK.due("the last that there is", x.from(1, 7, 1), 1 << 7);
        CHECK.due("the last sheet", x.from(1, 7, 3), 0);
        CHECK.due("status stays", x.status(), -6);
    }

    private static void madeInAll() {
        CHECK.sentence("12: How many TILES were MADE in all");
        BoardSums x = new BoardSums();
        CHECK.due("none at first", x.made(), 0);
        x.cell(0, 0, 0);
        CHECK.due("none without a board", x.made(), 0);
        Check.boards(x, "a=sheet 0;b=flow a");
        CHECK.due("none by a text", x.made(), 0);
        x.cell(1, 0, 0);
        CHECK.due("four and one", x.made(), 5);
        x.fresh(1, 1);
        x.from(1, 1, 0);
        x.cell(1, 8, 0);
        x.cell(2, 0, 0);
        CHECK.due("none by other asks", x.made(), 5);
        x.tell(0, 0, 0, 1);
        CHECK.due("none by telling", x.made(), 5);
        x.size(4, 4);
        CHECK.due("a size leaves it", x.made(), 5);
        x.cell(1, 0, 0);
        CHECK.due("one and one", x.made(), 7);
        Check.boards(x, "a=sheet 0");
        CHECK.due("a new text leaves it", x.made(), 7);
        x.boards();
        CHECK.due("a refused one too", x.made(), 7);
        x.cell(0, 0, 0);
        CHECK.due("and it goes on", x.made(), 8);
        CHECK.due("asked twice", x.made(), 8);
    }
}
