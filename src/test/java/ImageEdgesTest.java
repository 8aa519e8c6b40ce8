/** Terms IV, promises 13 to 16 and the 512 calls: each sentence that names an edge of images, counts, the status. */
public final class ImageEdgesTest {
    private static final int GAP = BoardSums.GAP;
    private static final int MIN = Integer.MIN_VALUE;
    private static final int MAX = Integer.MAX_VALUE;
    private static final int[] NO_IMAGES = {-1, 3, 4, MIN, MAX, 256, MIN + 1};
    private static final Check CHECK = new Check();

    public static void main(String[] args) {
        imagesFromNoneToTwo();
        keepAllSheets();
        imagesKeepWhatWas();
        backTellsWhatIsOtherwise();
        backTellsThoseAlone();
        backOverBoards();
        imageKept();
        imageRefused();
        backCounts();
        backRefusedByNumber();
        backNotKept();
        countSides();
        countBoards();
        countTiles();
        countBytes();
        countFresh();
        countOthers();
        statusOfEachCall();
        statusOfTheLatest();
        statusLeftByOthers();
        statusAheadOfAny();
        callsTo512();
        CHECK.end();
    }

    private static void imagesFromNoneToTwo() {
        CHECK.sentence("IV: IMAGES 0 .. 2");
        BoardSums x = new BoardSums();
        for (int k = 0; k < 3; k++) {
            x.tell(0, 0, 0, k + 10);
            CHECK.due("image(" + k + ")", x.image(k), 0);
        }
        int[] order = {1, 0, 2, 2, 0};
        int[] told = {1, 1, 1, 0, 1};
        for (int i = 0; i < order.length; i++) {
            CHECK.due("back(" + order[i] + ")", x.back(order[i]), told[i]);
            CHECK.due("told of it", x.told(0, 0, 0), order[i] + 10);
        }
        CHECK.due("image(3)", x.image(3), -1);
        CHECK.due("image(-1)", x.image(-1), -1);
        CHECK.due("back(3)", x.back(3), -1);
        CHECK.due("back(-1)", x.back(-1), -1);
    }

    private static void keepAllSheets() {
        CHECK.sentence("IV: IMAGES keep all SHEETS");
        for (int k = 0; k < 3; k++) {
            BoardSums x = new BoardSums();
            x.size(12, 12);
            for (int sheet = 0; sheet < 4; sheet++) {
                x.tell(sheet, 0, 0, sheet);
                x.tell(sheet, 11, 11, sheet + 4);
                x.tell(sheet, 11, 0, sheet + 8);
                x.tell(sheet, 0, 11, sheet + 12);
            }
            x.image(k);
            for (int sheet = 0; sheet < 4; sheet++) {
                x.tell(sheet, 0, 0, GAP);
                x.tell(sheet, 11, 11, -1);
                x.tell(sheet, 11, 0, -2);
                x.tell(sheet, 0, 11, GAP);
                x.tell(sheet, 5, 5, 5);
            }
            CHECK.due("back", x.back(k), 20);
            for (int sheet = 0; sheet < 4; sheet++) {
                CHECK.due("first", x.told(sheet, 0, 0), sheet);
                CHECK.due("last", x.told(sheet, 11, 11), sheet + 4);
                CHECK.due("right", x.told(sheet, 11, 0), sheet + 8);
                CHECK.due("up", x.told(sheet, 0, 11), sheet + 12);
                CHECK.due("a gap", x.told(sheet, 5, 5), GAP);
            }
        }
    }

    private static void imagesKeepWhatWas() {
        CHECK.sentence("IV: IMAGES keep: what is told later is not in them, nor in another one");
        BoardSums x = new BoardSums();
        x.image(0);
        x.tell(1, 2, 3, 4);
        x.image(1);
        x.tell(1, 2, 3, 5);
        CHECK.due("back(0) to nothing told", x.back(0), 1);
        CHECK.due("told", x.told(1, 2, 3), GAP);
        CHECK.due("back(1)", x.back(1), 1);
        CHECK.due("told", x.told(1, 2, 3), 4);
        x.tell(1, 2, 3, 6);
        CHECK.due("an image is kept again", x.image(0), 0);
        CHECK.due("back(1) again", x.back(1), 1);
        CHECK.due("back(0) of the new one", x.back(0), 1);
        CHECK.due("told", x.told(1, 2, 3), 6);
        CHECK.due("image(2) was not kept", x.back(2), -6);
    }

    private static void backTellsWhatIsOtherwise() {
        CHECK.sentence("IV: BACK tells each CELL that is not as it was kept");
        BoardSums x = Check.of(9, 9, "a=sheet 0;b=sheet 1;c=add a b;d=near 1 count c");
        x.tell(0, 4, 4, 1);
        x.image(0);
        for (int board = 0; board < 4; board++) {
            Check.askAll(x, board);
        }
        x.tell(0, 4, 4, 2);
        x.tell(1, 0, 8, 3);
        for (int board = 0; board < 4; board++) {
            Check.askAll(x, board);
        }
        CHECK.due("back", x.back(0), 2);
        CHECK.due("lost of a", Check.freshBits(x, 0), 511 & ~(1 << 4));
        CHECK.due("lost of b", Check.freshBits(x, 1), 511 & ~(1 << 6));
        CHECK.due("lost of c", Check.freshBits(x, 2), 511 & ~(1 << 4) & ~(1 << 6));
        CHECK.due("lost of d", Check.freshBits(x, 3), 0);
        CHECK.due("cell of a", x.cell(0, 4, 4), 1);
        CHECK.due("cell of b", x.cell(1, 0, 8), GAP);
        x.tell(0, 4, 4, GAP);
        Check.askAll(x, 0);
        CHECK.due("back from a gap", x.back(0), 1);
        CHECK.due("lost of a", Check.freshBits(x, 0), 511 & ~(1 << 4));
    }

    private static void backTellsThoseAlone() {
        CHECK.sentence("IV: (those alone)");
        BoardSums x = Check.of(12, 12, "a=sheet 0;b=sheet 1;c=sheet 2;d=sheet 3");
        x.tell(0, 0, 0, 1);
        x.tell(3, 11, 11, 1);
        x.image(1);
        x.tell(0, 0, 0, 2);
        x.tell(0, 0, 0, 1);
        x.tell(2, 5, 5, 7);
        x.tell(2, 5, 5, GAP);
        for (int board = 0; board < 4; board++) {
            Check.askAll(x, board);
        }
        CHECK.due("all are as they were", x.back(1), 0);
        CHECK.due("all stay fresh", x.count(5), 36);
        x.tell(3, 11, 11, 2);
        x.cell(3, 11, 11);
        CHECK.due("one is not", x.back(1), 1);
        CHECK.due("one is lost", x.count(5), 35);
        CHECK.due("its tile", x.fresh(3, 8), 0);
    }

    private static void backOverBoards() {
        CHECK.sentence("IV: IMAGES keep SHEETS: a new TEXT leaves them");
        BoardSums x = Check.of(6, 6, "a=sheet 0");
        x.tell(0, 5, 5, 3);
        x.image(2);
        x.tell(0, 5, 5, 4);
        Check.boards(x, "a=sheet 1;b=sheet 0");
        CHECK.due("cell of b", x.cell(1, 5, 5), 4);
        CHECK.due("back", x.back(2), 1);
        CHECK.due("the new board is lost", x.fresh(1, 4), 0);
        CHECK.due("cell of b", x.cell(1, 5, 5), 3);
        CHECK.due("boards stay", x.count(2), 2);
    }

    private static void imageKept() {
        CHECK.sentence("13: IMAGE k is kept: 0");
        for (int k = 0; k < 3; k++) {
            BoardSums x = Check.of(8, 8, "a=sheet 0");
            Check.askAll(x, 0);
            CHECK.due("image(" + k + ")", x.image(k), 0);
            CHECK.due("status", x.status(), 0);
            CHECK.due("tiles stay fresh", x.count(5), 4);
            for (int other = 0; other < 3; other++) {
                CHECK.due("back(" + other + ")", x.back(other), other == k ? 0 : -6);
            }
        }
    }

    private static void imageRefused() {
        CHECK.sentence("13: -1");
        BoardSums x = new BoardSums();
        for (int k = 0; k < 3; k++) {
            x.tell(0, k, 0, k);
            x.image(k);
        }
        x.tell(0, 7, 7, 7);
        for (int k : NO_IMAGES) {
            CHECK.due("image(" + k + ")", x.image(k), -1);
            CHECK.due("its status", x.status(), -1);
        }
        CHECK.due("image 2 stays", x.back(2), 1);
        CHECK.due("image 1 stays", x.back(1), 1);
        CHECK.due("image 0 stays", x.back(0), 1);
    }

    private static void backCounts() {
        CHECK.sentence("14: BACK: how many CELLS were told");
        BoardSums x = new BoardSums();
        x.size(2, 2);
        x.image(0);
        for (int place = 0; place < 16; place++) {
            x.tell(place / 4, place % 2, place / 2 % 2, place);
        }
        x.image(1);
        CHECK.due("all cells of all sheets", x.back(0), 16);
        CHECK.due("status", x.status(), 0);
        CHECK.due("none", x.back(0), 0);
        CHECK.due("status of none", x.status(), 0);
        CHECK.due("all again", x.back(1), 16);
        BoardSums y = new BoardSums();
        y.size(12, 12);
        y.image(2);
        for (int place = 0; place < 144; place++) {
            y.tell(3, place % 12, place / 12, 0);
        }
        CHECK.due("a whole sheet of 12 times 12", y.back(2), 144);
        CHECK.due("its last cell", y.told(3, 11, 11), GAP);
    }

    private static void backRefusedByNumber() {
        CHECK.sentence("14: -1");
        BoardSums x = new BoardSums();
        x.image(0);
        x.image(2);
        x.tell(0, 0, 0, 4);
        for (int k : NO_IMAGES) {
            CHECK.due("back(" + k + ")", x.back(k), -1);
            CHECK.due("its status", x.status(), -1);
        }
        CHECK.due("nothing was told", x.told(0, 0, 0), 4);
    }

    private static void backNotKept() {
        CHECK.sentence("14: -6 it was not kept");
        BoardSums x = Check.of(8, 8, "a=sheet 0");
        x.tell(0, 0, 0, 4);
        x.cell(0, 0, 0);
        for (int k = 0; k < 3; k++) {
            CHECK.due("back(" + k + ")", x.back(k), -6);
            CHECK.due("its status", x.status(), -6);
        }
        CHECK.due("nothing was told", x.told(0, 0, 0), 4);
        CHECK.due("nothing was lost", x.count(5), 1);
        x.image(1);
        x.image(7);
        CHECK.due("0 is not kept", x.back(0), -6);
        CHECK.due("1 is kept", x.back(1), 0);
        CHECK.due("2 is not kept", x.back(2), -6);
        x.size(8, 8);
        CHECK.due("1 is gone", x.back(1), -6);
    }

    private static void countSides() {
        CHECK.sentence("15: 0 W, 1 H");
        BoardSums x = new BoardSums();
        CHECK.due("W at first", x.count(0), 8);
        CHECK.due("H at first", x.count(1), 8);
        x.size(2, 12);
        CHECK.due("W", x.count(0), 2);
        CHECK.due("H", x.count(1), 12);
        x.size(13, 3);
        x.size(3, 1);
        CHECK.due("W after refused ones", x.count(0), 2);
        CHECK.due("H after refused ones", x.count(1), 12);
    }

    private static void countBoards() {
        CHECK.sentence("15: 2 BOARDS");
        BoardSums x = new BoardSums();
        CHECK.due("none at first", x.count(2), 0);
        x.boards();
        CHECK.due("none after a refused text", x.count(2), 0);
        Check.boards(x, "a=sheet 0;b=sheet 0;c=sheet 0;d=sheet 0;e=sheet 0;f=sheet 0;g=sheet 0;h=sheet 0;i=sheet 0;"
            + "j=sheet 0");
        CHECK.due("as many as can be", x.count(2), 10);
        x.size(5, 5);
        CHECK.due("a size leaves them", x.count(2), 10);
        Check.boards(x, "a=sheet 0");
        CHECK.due("one", x.count(2), 1);
        Check.boards(x, "a=sheet 0;b");
        CHECK.due("a refused text leaves it", x.count(2), 1);
    }

    private static void countTiles() {
        CHECK.sentence("15: 3 TILES that a BOARD has");
        BoardSums x = new BoardSums();
        CHECK.due("at first", x.count(3), 4);
        for (int side = 2; side <= 12; side++) {
            int tiles = side <= 4 ? 1 : side <= 8 ? 2 : 3;
            x.size(side, 2);
            CHECK.due(side + " times 2", x.count(3), tiles);
            x.size(2, side);
            CHECK.due("2 times " + side, x.count(3), tiles);
            x.size(side, side);
            CHECK.due(side + " times " + side, x.count(3), tiles * tiles);
            x.size(side, 9);
            CHECK.due(side + " times 9", x.count(3), tiles * 3);
        }
    }

    private static void countBytes() {
        CHECK.sentence("15: 4 bytes of the TAPE");
        BoardSums x = new BoardSums();
        CHECK.due("none at first", x.count(4), 0);
        for (int i = 1; i <= 15; i++) {
            x.feed(0, 0, 0, 0, 0);
            CHECK.due("fed", x.count(4), 20 * i);
        }
        x.feed(0, 0, 0, 0, 0);
        CHECK.due("full", x.count(4), 300);
        x.end(301);
        x.end(-1);
        CHECK.due("after refused ends", x.count(4), 300);
        x.end(1);
        CHECK.due("one", x.count(4), 1);
        x.size(3, 3);
        x.image(0);
        x.back(0);
        CHECK.due("others leave it", x.count(4), 1);
        x.boards();
        CHECK.due("none after boards()", x.count(4), 0);
    }

    private static void countFresh() {
        CHECK.sentence("15: 5 FRESH TILES of all BOARDS");
        BoardSums x = Check.of(12, 12, "a=sheet 0;b=sheet 1;c=sheet 2;d=sheet 3;e=add a b;f=near 1 sum e;g=flow f;"
            + "h=zone sum g a;i=way h b;j=fill i 0");
        CHECK.due("none", x.count(5), 0);
        x.cell(0, 0, 0);
        CHECK.due("one", x.count(5), 1);
        for (int board = 0; board < 10; board++) {
            Check.askAll(x, board);
        }
        CHECK.due("all of ten boards", x.count(5), 90);
        x.tell(3, 0, 0, 0);
        CHECK.due("one less", x.count(5), 89);
        x.tell(0, 0, 0, 0);
        CHECK.due("all that needs it", x.count(5), 89 - 1 - 1 - 4 - 9 * 4);
        x.size(12, 12);
        CHECK.due("none after size", x.count(5), 0);
    }

    private static void countOthers() {
        CHECK.sentence("15: NONE for others");
        BoardSums x = new BoardSums();
        for (int what : new int[] {-1, 6, 7, 8, -6, MIN, MAX, 256, 261, MIN + 5}) {
            CHECK.due("count(" + what + ")", x.count(what), -1);
        }
        CHECK.due("status stays", x.status(), 0);
    }

    private static void statusOfEachCall() {
        CHECK.sentence("16: What size, tell, boards, image, back was REFUSED by");
        BoardSums x = new BoardSums();
        x.size(1, 2);
        CHECK.due("size", x.status(), -1);
        x.boards();
        CHECK.due("boards", x.status(), -6);
        x.tell(4, 0, 0, 0);
        CHECK.due("tell, sheet", x.status(), -1);
        x.tell(0, 8, 0, 0);
        CHECK.due("tell, cell", x.status(), -2);
        x.tell(0, 0, 0, 1000001);
        CHECK.due("tell, value", x.status(), -1);
        x.back(0);
        CHECK.due("back, not kept", x.status(), -6);
        x.image(3);
        CHECK.due("image", x.status(), -1);
        x.boards();
        x.back(-1);
        CHECK.due("back, number", x.status(), -1);
        CHECK.due("asked again", x.status(), -1);
    }

    private static void refuse(BoardSums x) {
        x.tell(0, -1, -1, 0);
        CHECK.due("refused", x.status(), -2);
    }

    private static void statusOfTheLatest() {
        CHECK.sentence("16: the latest call; 0 if it was not");
        BoardSums x = new BoardSums();
        refuse(x);
        x.size(5, 5);
        CHECK.due("size", x.status(), 0);
        refuse(x);
        x.tell(0, 0, 0, 0);
        CHECK.due("tell", x.status(), 0);
        refuse(x);
        Check.boards(x, "a=sheet 0");
        CHECK.due("boards", x.status(), 0);
        refuse(x);
        x.image(0);
        CHECK.due("image", x.status(), 0);
        refuse(x);
        x.back(0);
        CHECK.due("back of nothing", x.status(), 0);
        x.tell(0, 0, 0, 1);
        refuse(x);
        CHECK.due("back of one", x.back(0), 1);
        CHECK.due("back", x.status(), 0);
    }

    private static void statusLeftByOthers() {
        CHECK.sentence("16: of size, tell, boards, image, back: no other call");
        BoardSums x = new BoardSums();
        Check.boards(x, "a=sheet 0");
        for (int i = 0; i < 2; i++) {
            int status = i == 0 ? 0 : -2;
            if (i == 1) {
                refuse(x);
            }
            x.feed(0, 0, 0, 0, 0);
            x.end(21);
            x.end(-1);
            x.end(0);
            CHECK.due("feed and end", x.status(), status);
            x.told(0, 0, 0);
            x.told(9, 9, 9);
            x.cell(0, 0, 0);
            x.cell(9, 9, 9);
            CHECK.due("told and cell", x.status(), status);
            x.fresh(0, 0);
            x.fresh(9, 9);
            x.from(0, 0, 0);
            x.from(9, 9, 9);
            CHECK.due("fresh and from", x.status(), status);
            x.made();
            x.fault();
            x.count(5);
            x.count(9);
            CHECK.due("made, fault and count", x.status(), status);
        }
    }

    private static void statusAheadOfAny() {
        CHECK.sentence("16: or ahead of any");
        BoardSums x = new BoardSums();
        CHECK.due("a new object", x.status(), 0);
        x.end(1);
        x.told(4, 0, 0);
        x.cell(0, 0, 0);
        x.fresh(0, 0);
        x.from(0, 0, 0);
        x.count(6);
        x.feed(1, 2, 3, 4, 5);
        CHECK.due("after calls that set none", x.status(), 0);
    }

    /** 17 calls bring in the longest text, 494 tell, bring back and ask, and one is left. */
    private static void callsTo512() {
        CHECK.sentence("An object is used for at most 512 calls after it has been made");
        BoardSums x = new BoardSums();
        String text = "a=sheet 0;b=near 3 sum a;c=zone sum b b;d=way a c;e=flow d;f=near 3 count e;g=zone most f f";
        CHECK.due("boards", Check.boards(x, text + " ".repeat(300 - text.length())), 7);
        for (int i = 0; i < 247; i++) {
            CHECK.due("tell " + i, x.tell(0, i % 8, i / 8 % 8, i), 0);
            CHECK.due("ask " + i, i % 2 == 0 ? x.image(i % 3) : x.fresh(6, 4), 0);
        }
        CHECK.due("the 512th", x.cell(0, 6, 6), 246);
    }
}
