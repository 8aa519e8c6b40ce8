/** Promises 1 to 4 and 10 to 16: sheets, freshness, sources, images, counts and refusals. */
public final class CallsTest {
    private static final int GAP = BoardSums.GAP;
    private static final int MIN = Integer.MIN_VALUE;
    private static final int MAX = Integer.MAX_VALUE;
    private static final Check CHECK = new Check();

    public static void main(String[] args) {
        newObject();
        size();
        tell();
        freshAndMade();
        needsOfNear();
        needsOfAll();
        lostOverSteps();
        from();
        images();
        backLosesOnlyWhatChanged();
        count();
        status();
        sizeLeavesNothing();
        CHECK.end();
    }

    private static void newObject() {
        BoardSums x = new BoardSums();
        int[] counts = {8, 8, 0, 4, 0, 0};
        for (int i = 0; i < counts.length; i++) {
            CHECK.due("count(" + i + ")", x.count(i), counts[i]);
        }
        for (int sheet = 0; sheet < 4; sheet++) {
            for (int place = 0; place < 64; place++) {
                CHECK.due("told", x.told(sheet, place % 8, place / 8), GAP);
            }
        }
        CHECK.due("status", x.status(), 0);
        CHECK.due("fault", x.fault(), -1);
        CHECK.due("made", x.made(), 0);
        CHECK.due("cell", x.cell(0, 0, 0), GAP);
        CHECK.due("fresh", x.fresh(0, 0), -1);
        CHECK.due("from", x.from(0, 0, 0), -1);
        CHECK.due("back", x.back(0), -6);
    }

    private static void size() {
        BoardSums x = new BoardSums();
        int[][] bad = {{1, 5}, {5, 1}, {13, 5}, {5, 13}, {0, 0}, {-8, 8}, {MIN, MAX}};
        for (int[] b : bad) {
            CHECK.due("size(" + b[0] + ", " + b[1] + ")", x.size(b[0], b[1]), -1);
            CHECK.due("status", x.status(), -1);
            CHECK.due("width stays", x.count(0), 8);
            CHECK.due("height stays", x.count(1), 8);
        }
        for (int w = 2; w <= 12; w++) {
            for (int h = 2; h <= 12; h++) {
                CHECK.due("size(" + w + ", " + h + ")", x.size(w, h), 0);
                CHECK.due("width", x.count(0), w);
                CHECK.due("height", x.count(1), h);
                CHECK.due("tiles", x.count(3), ((w + 3) / 4) * ((h + 3) / 4));
            }
        }
    }

    private static void tell() {
        BoardSums x = new BoardSums();
        x.size(12, 5);
        CHECK.due("least", x.tell(0, 11, 4, -1000000), 0);
        CHECK.due("told least", x.told(0, 11, 4), -1000000);
        CHECK.due("most", x.tell(3, 0, 0, 1000000), 0);
        CHECK.due("told most", x.told(3, 0, 0), 1000000);
        CHECK.due("gap", x.tell(3, 0, 0, GAP), 0);
        CHECK.due("told gap", x.told(3, 0, 0), GAP);
        int[][] bad = {{-1, 0, 0, 0, -1}, {4, 0, 0, 0, -1}, {0, 0, 0, 1000001, -1}, {0, 0, 0, -1000001, -1},
            {0, 0, 0, GAP - 1, -1}, {0, 0, 0, GAP + 1, -1}, {0, 0, 0, MAX, -1}, {0, 0, 0, MIN, -1},
            {0, 12, 0, 0, -2}, {0, 0, 5, 0, -2}, {0, -1, 0, 0, -2}, {0, 0, -1, 0, -2}, {0, MAX, MIN, 0, -2},
            {4, 12, 0, 0, -1}, {0, 12, 0, 1000001, -1}, {MIN, MIN, MIN, MIN, -1}};
        for (int[] b : bad) {
            CHECK.due("bad tell", x.tell(b[0], b[1], b[2], b[3]), b[4]);
            CHECK.due("its status", x.status(), b[4]);
        }
        CHECK.due("nothing told", x.told(0, 0, 0), GAP);
        CHECK.due("told(-1)", x.told(-1, 0, 0), GAP);
        CHECK.due("told(4)", x.told(4, 0, 0), GAP);
        CHECK.due("told at 12", x.told(0, 12, 4), GAP);
        CHECK.due("told at -1", x.told(0, -1, 4), GAP);
        CHECK.due("told at y 5", x.told(0, 11, 5), GAP);
        CHECK.due("told at y -1", x.told(0, 11, -1), GAP);
        CHECK.due("told far", x.told(MAX, MIN, MAX), GAP);
        CHECK.due("told does not touch status", x.status(), -1);
    }

    private static void freshAndMade() {
        BoardSums x = Check.of(12, 12, "a=sheet 0;b=sheet 1;c=add a b;d=add c c");
        CHECK.due("none is fresh", x.count(5), 0);
        CHECK.due("cell", x.cell(3, 5, 5), GAP);
        CHECK.due("a board named twice is made once", x.made(), 4);
        CHECK.due("fresh", x.fresh(0, 4), 1);
        CHECK.due("others aren't", x.fresh(0, 3), 0);
        x.tell(1, 4, 4, GAP);
        CHECK.due("told as it was, too: b", x.fresh(1, 4), 0);
        CHECK.due("c", x.fresh(2, 4), 0);
        CHECK.due("d", x.fresh(3, 4), 0);
        CHECK.due("a stays", x.fresh(0, 4), 1);
        x.cell(2, 4, 4);
        CHECK.due("b and c are made", x.made(), 6);
        CHECK.due("d is not", x.fresh(3, 4), 0);
        x.tell(0, 3, 4, 1);
        CHECK.due("another tile's cell", x.fresh(2, 4), 1);
        x.tell(2, 4, 4, 1);
        CHECK.due("another sheet's cell", x.fresh(2, 4), 1);
        x.tell(0, 4, 4, 1000001);
        CHECK.due("refused: a stays", x.fresh(0, 4), 1);
        CHECK.due("no tile 9", x.fresh(0, 9), -1);
        CHECK.due("no tile -1", x.fresh(0, -1), -1);
        CHECK.due("no board 4", x.fresh(4, 0), -1);
        CHECK.due("no board -1", x.fresh(-1, 0), -1);
        CHECK.due("far tile", x.fresh(0, 32), -1);
        CHECK.due("far", x.fresh(MIN, MAX), -1);
        CHECK.due("no cell", x.cell(0, 12, 0), GAP);
        CHECK.due("no cell up", x.cell(0, 0, 12), GAP);
        CHECK.due("no cell below", x.cell(0, 0, -1), GAP);
        CHECK.due("no cell left", x.cell(0, -1, 0), GAP);
        CHECK.due("no board", x.cell(4, 0, 0), GAP);
        CHECK.due("no board below", x.cell(-1, 0, 0), GAP);
        CHECK.due("none of them was made", x.made(), 6);
        BoardSums y = Check.of(5, 4, "a=sheet 0");
        int[] there = {0, 0, -1, -1, -1, -1, -1, -1, -1};
        for (int tile = 0; tile < 9; tile++) {
            CHECK.due("tile " + tile + " of 5 times 4", y.fresh(0, tile), there[tile]);
        }
    }

    private static void needsOfNear() {
        int[] near = {0b011011, 0b111111, 0b110110, 0b011011011, 0b111111111, 0b110110110,
            0b011011000, 0b111111000, 0b110110000};
        for (int r = 1; r <= 3; r++) {
            for (int tile = 0; tile < 9; tile++) {
                BoardSums x = Check.of(12, 12, "a=sheet 0;b=near " + r + " sum a");
                CHECK.due("from of near " + r, x.from(1, tile, 0), near[tile]);
                x.cell(1, tile % 3 * 4, tile / 3 * 4);
                CHECK.due("made of near " + r, x.made(), Integer.bitCount(near[tile]) + 1);
                for (int t = 0; t < 9; t++) {
                    CHECK.due("fresh of near " + r, x.fresh(0, t), near[tile] >> t & 1);
                }
            }
        }
        BoardSums x = Check.of(9, 9, "a=sheet 0;b=near 3 sum a;c=near 1 sum b");
        CHECK.due("near of near", x.from(2, 0, 0), 511);
        CHECK.due("cell", x.cell(2, 0, 0), GAP);
        CHECK.due("made over two steps", x.made(), 9 + 4 + 1);
    }

    private static void needsOfAll() {
        String[] makings = {"zone sum a b", "way a b", "flow a"};
        int[] boards = {2, 2, 1};
        for (int i = 0; i < 3; i++) {
            BoardSums x = Check.of(12, 7, "a=sheet 0;b=sheet 1;c=" + makings[i]);
            x.cell(2, 0, 0);
            CHECK.due(makings[i], x.made(), 6 * boards[i] + 1);
            x.cell(2, 3, 3);
            CHECK.due("same tile", x.made(), 6 * boards[i] + 1);
            x.cell(2, 4, 0);
            CHECK.due("next tile", x.made(), 6 * boards[i] + 2);
            CHECK.due("fresh ones", x.count(5), 6 * boards[i] + 2);
            CHECK.due("a tile that was not asked", x.fresh(2, 5), 0);
            CHECK.due("from a", x.from(2, 5, 0), 0b111111);
            CHECK.due("from b", x.from(2, 5, 1), boards[i] == 2 ? 0b111111 : 0);
            x.tell(0, 11, 6, 3);
            CHECK.due("lost", x.count(5), 6 * boards[i] - 1);
            x.cell(2, 0, 0);
            CHECK.due("made again", x.made(), 6 * boards[i] + 4);
            x.cell(2, 11, 6);
            CHECK.due("its own tile", x.made(), 6 * boards[i] + 5);
        }
    }

    private static void lostOverSteps() {
        BoardSums x = Check.of(12, 12, "a=sheet 0;b=near 1 sum a;c=fill b 0;d=near 2 most c;e=sheet 0;f=sheet 2");
        for (int b = 0; b < 6; b++) {
            for (int tile = 0; tile < 9; tile++) {
                x.cell(b, tile % 3 * 4, tile / 3 * 4);
            }
        }
        CHECK.due("all are fresh", x.count(5), 54);
        CHECK.due("made", x.made(), 54);
        x.tell(0, 0, 0, 1);
        int[][] lost = {{0}, {0, 1, 3, 4}, {0, 1, 3, 4}, {0, 1, 2, 3, 4, 5, 6, 7, 8}, {0}, {}};
        for (int b = 0; b < 6; b++) {
            int bits = 511;
            for (int tile : lost[b]) {
                bits &= ~(1 << tile);
            }
            for (int tile = 0; tile < 9; tile++) {
                CHECK.due("fresh(" + b + ", " + tile + ")", x.fresh(b, tile), bits >> tile & 1);
            }
        }
    }

    private static void from() {
        BoardSums x = Check.of(12, 12, "a=sheet 2;b=sheet 3;c=if a b a;d=near 1 sum c;e=sheet 2;f=add d e");
        CHECK.due("a sheet's tile comes from itself", x.from(0, 7, 2), 1 << 7);
        CHECK.due("from no other", x.from(0, 7, 3), 0);
        CHECK.due("if, first", x.from(2, 2, 2), 4);
        CHECK.due("if, second", x.from(2, 2, 3), 4);
        CHECK.due("near over if", x.from(3, 2, 3), 0b110110);
        CHECK.due("both of one sheet", x.from(5, 8, 2), 0b110110000);
        CHECK.due("asks make nothing", x.made(), 0);
        CHECK.due("no sheet 4", x.from(0, 0, 4), -1);
        CHECK.due("no sheet -1", x.from(0, 0, -1), -1);
        CHECK.due("no tile 9", x.from(0, 9, 0), -1);
        CHECK.due("no tile -1", x.from(0, -1, 0), -1);
        CHECK.due("no board 6", x.from(6, 0, 0), -1);
        CHECK.due("no board -1", x.from(-1, 0, 0), -1);
        x.size(4, 12);
        CHECK.due("tiles of the new size alone", x.from(3, 3, 2), 1 | 1 << 3 | 1 << 6);
        CHECK.due("no tile 1 now", x.from(3, 1, 2), -1);
    }

    private static void images() {
        BoardSums x = new BoardSums();
        CHECK.due("image(-1)", x.image(-1), -1);
        CHECK.due("status", x.status(), -1);
        CHECK.due("image(3)", x.image(3), -1);
        CHECK.due("image(MIN)", x.image(MIN), -1);
        CHECK.due("image(2)", x.image(2), 0);
        CHECK.due("status", x.status(), 0);
        CHECK.due("back(-1)", x.back(-1), -1);
        CHECK.due("back(3)", x.back(3), -1);
        CHECK.due("back(MAX)", x.back(MAX), -1);
        CHECK.due("back(0) was not kept", x.back(0), -6);
        CHECK.due("status", x.status(), -6);
        CHECK.due("back(2), nothing to tell", x.back(2), 0);
        CHECK.due("status", x.status(), 0);
        for (int sheet = 0; sheet < 4; sheet++) {
            x.tell(sheet, 7, sheet, sheet * 10);
        }
        x.image(0);
        x.tell(1, 7, 1, GAP);
        x.tell(2, 0, 0, 4);
        x.tell(3, 7, 3, 30);
        CHECK.due("back(0)", x.back(0), 2);
        CHECK.due("told again", x.told(1, 7, 1), 10);
        CHECK.due("a gap again", x.told(2, 0, 0), GAP);
        CHECK.due("back(2)", x.back(2), 4);
        CHECK.due("all gaps", x.told(3, 7, 3), GAP);
        CHECK.due("back(0) from there", x.back(0), 4);
        CHECK.due("told", x.told(3, 7, 3), 30);
        x.image(2);
        x.tell(3, 7, 3, 31);
        CHECK.due("an image kept again", x.back(2), 1);
        CHECK.due("told", x.told(3, 7, 3), 30);
        CHECK.due("a refused size", x.size(13, 2), -1);
        CHECK.due("images stay then", x.back(0), 0);
        CHECK.due("size", x.size(8, 8), 0);
        CHECK.due("images are gone", x.back(0), -6);
        CHECK.due("images are gone", x.back(2), -6);
    }

    private static void backLosesOnlyWhatChanged() {
        BoardSums x = Check.of(12, 12, "a=sheet 0;b=sheet 1");
        x.tell(0, 0, 0, 1);
        x.image(1);
        x.tell(0, 0, 0, 2);
        x.tell(0, 4, 0, 2);
        x.tell(0, 4, 0, GAP);
        for (int b = 0; b < 2; b++) {
            for (int tile = 0; tile < 9; tile++) {
                x.cell(b, tile % 3 * 4, tile / 3 * 4);
            }
        }
        CHECK.due("back", x.back(1), 1);
        CHECK.due("its tile is lost", x.fresh(0, 0), 0);
        CHECK.due("no other", x.count(5), 17);
        CHECK.due("the cell is as it was", x.cell(0, 0, 0), 1);
        CHECK.due("one more was made", x.made(), 19);
    }

    private static void count() {
        BoardSums x = new BoardSums();
        CHECK.due("count(-1)", x.count(-1), -1);
        CHECK.due("count(6)", x.count(6), -1);
        CHECK.due("count(MIN)", x.count(MIN), -1);
        CHECK.due("count(MAX)", x.count(MAX), -1);
        Check.feed(x, "a=sheet 0;");
        CHECK.due("bytes of the tape", x.count(4), 10);
        x.size(12, 2);
        CHECK.due("the tape stays", x.count(4), 10);
        x.end(9);
        x.boards();
        CHECK.due("boards", x.count(2), 1);
        CHECK.due("tiles", x.count(3), 3);
        CHECK.due("no tape", x.count(4), 0);
    }

    private static void status() {
        BoardSums x = new BoardSums();
        x.boards();
        CHECK.due("boards", x.status(), -6);
        x.feed(0, 0, 0, 0, 0);
        x.end(99);
        x.told(9, 9, 9);
        x.cell(9, 9, 9);
        x.fresh(9, 9);
        x.from(9, 9, 9);
        x.made();
        x.fault();
        x.count(9);
        CHECK.due("others leave it", x.status(), -6);
        x.tell(0, 8, 0, 0);
        CHECK.due("tell", x.status(), -2);
        x.tell(0, 7, 0, 0);
        CHECK.due("tell was not refused", x.status(), 0);
        x.size(1, 1);
        CHECK.due("size", x.status(), -1);
        x.image(0);
        CHECK.due("image was not refused", x.status(), 0);
        x.back(2);
        CHECK.due("back", x.status(), -6);
        x.back(0);
        CHECK.due("back was not refused", x.status(), 0);
        x.image(5);
        CHECK.due("image", x.status(), -1);
        x.end(0);
        Check.boards(x, "a=sheet 0");
        CHECK.due("boards was not refused", x.status(), 0);
    }

    /** What a wider size has left must not come into ways, zones, flows or neighbourhoods of a narrower one. */
    private static void sizeLeavesNothing() {
        BoardSums x = Check.of(12, 12, "a=sheet 0;b=fill a 1;c=zone sum b b;d=way b b;e=flow b;f=near 3 count b");
        for (int b = 0; b < 6; b++) {
            for (int tile = 0; tile < 9; tile++) {
                x.cell(b, tile % 3 * 4, tile / 3 * 4);
            }
        }
        int made = x.made();
        CHECK.due("zone of 144", x.cell(2, 0, 0), 144);
        x.size(2, 3);
        CHECK.due("boards stay", x.count(2), 6);
        CHECK.due("none is fresh", x.count(5), 0);
        CHECK.due("made stays", x.made(), made);
        CHECK.due("zone of 6", x.cell(2, 1, 2), 6);
        CHECK.due("way", x.cell(3, 1, 2), 0);
        CHECK.due("flow", x.cell(4, 1, 2), 1);
        CHECK.due("near", x.cell(5, 1, 2), 6);
        CHECK.due("made", x.made(), made + 6);
        CHECK.due("no cell", x.cell(1, 2, 0), GAP);
    }
}
