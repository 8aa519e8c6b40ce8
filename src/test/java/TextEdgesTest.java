import java.util.ArrayList;
import java.util.List;
import java.util.regex.Matcher;
import java.util.regex.Pattern;

/** Terms II, the grammar and its FAULT, and promises 5 to 8: each sentence that names an edge. */
public final class TextEdgesTest {
    private static final int MIN = Integer.MIN_VALUE;
    private static final int MAX = Integer.MAX_VALUE;
    private static final String TWO_SHEETS = "a=sheet 0;b=sheet 1;";
    private static final String[] MAKINGS = {"sheet 2", "add a b", "less a b", "times a b", "least a b", "most a b",
        "where a b", "way a b", "if a b a", "fill a 17", "fill b - 17", "near 2 sum a", "near 1 most b",
        "near 3 least a", "near 1 count a", "zone sum a b", "zone most a b", "zone least a b", "zone count b a",
        "flow b"};
    private static final Check CHECK = new Check();

    public static void main(String[] args) {
        textOf300Bytes();
        anyBlanks();
        blankIs32Alone();
        longestRowsOfLetters();
        wordsLetterByLetter();
        longestRowsOfDigits();
        singleOtherBytes();
        boardsWithSemicolons();
        boardWithEqualSign();
        nameIsOneLetter();
        nameThatHasNoneYet();
        nameThatHas();
        sheetNumbers();
        nearNumbers();
        hows();
        numbersToAMillion();
        faultOfEachToken();
        faultOfTheEnd();
        faultOfOneTokenMore();
        tenBoardsAtMost();
        numberedAsTheyCome();
        feedTwentyBytes();
        feedBeyond300();
        endFirstBytesAlone();
        endOfMoreThanThereAre();
        boardsEmptyTheTape();
        boardsOfTheNewTextAlone();
        boardsNoTileFresh();
        boardsRefusedStay();
        boardsOfNone();
        faultOfTheLatest();
        CHECK.end();
    }

    private static void good(String text, int boards) {
        BoardSums x = new BoardSums();
        CHECK.due("boards of '" + text + "'", Check.boards(x, text), boards);
        CHECK.due("fault of '" + text + "'", x.fault(), -1);
        CHECK.due("status of '" + text + "'", x.status(), 0);
        CHECK.due("count(2) of '" + text + "'", x.count(2), boards);
    }

    private static void bad(String text, int fault) {
        BoardSums x = new BoardSums();
        CHECK.due("boards of '" + text + "'", Check.boards(x, text), -6);
        CHECK.due("fault of '" + text + "'", x.fault(), fault);
        CHECK.due("status of '" + text + "'", x.status(), -6);
        CHECK.due("count(2) of '" + text + "'", x.count(2), 0);
    }

    private static String many(int boards) {
        StringBuilder text = new StringBuilder();
        for (int i = 0; i < boards; i++) {
            text.append(i == 0 ? "" : ";").append((char) ('a' + i)).append("=sheet ").append(i % 4);
        }
        return text.toString();
    }

    private static void textOf300Bytes() {
        CHECK.sentence("II: A TEXT of at most 300 bytes");
        String blanks = " ".repeat(300 - 9);
        good("a=sheet 0" + blanks, 1);
        good("a=sheet " + blanks + "3", 1);
        bad("a=sheet " + blanks + "4", 299);
        bad("a=sheet 0" + " ".repeat(290) + "?", 299);
        BoardSums x = new BoardSums();
        Check.boards(x, "a=sheet 0;b=fill a " + "0".repeat(280) + "7");
        CHECK.due("the last byte counts", x.cell(1, 0, 0), 7);
        // As many TOKENS as bytes, and one alone.
        for (String token : new String[] {"?", ";", "=", "-", "" + (char) 255, "" + (char) 0}) {
            bad(token.repeat(300), 0);
            bad("a=sheet 0;b=fill a " + token.repeat(281), token.equals("-") ? 20 : 19);
        }
        bad("a1".repeat(150), 1);
        bad("a=".repeat(150), 2);
        bad("a".repeat(300), 0);
        bad("0".repeat(300), 0);
    }

    private static void anyBlanks() {
        CHECK.sentence("II: any blanks (32) between TOKENS");
        good("a=sheet0;b=near1sum a;c=fill a-5", 3);
        good("   a   =   sheet   0   ;   b   =   near   1   sum   a   ;   c   =   fill   a   -   5   ", 3);
        good("a=sheet 0;b=if a  a   a", 2);
        bad("a=sh eet 0", 2);
        bad("a=sheet 0;b=fill a 1 0", 21);
    }

    private static void blankIs32Alone() {
        CHECK.sentence("II: blanks (32)");
        for (char c : new char[] {0, 1, 9, 10, 11, 12, 13, 28, 31, 33, 95, 127, 133, 160, 255}) {
            bad("a=" + c + "sheet 0", 2);
            bad("a=sheet 0" + c, 9);
            bad(c + "a=sheet 0", 0);
        }
    }

    private static void longestRowsOfLetters() {
        CHECK.sentence("II: TOKENS (longest rows of letters a .. z)");
        bad("a=sheeta 0", 2);
        bad("a=asheet 0", 2);
        bad("a=sheet 0;b=add aa", 16);
        bad("a=sheet 0;b=adda a", 12);
        bad("a=sheet 0;b=near 1 suma", 19);
        bad("a=sheet 0;b=flowa", 12);
        bad("a=zz", 2);
        good("z=sheet 0;a=flow z", 2);
        // The bytes next to a .. z, and the letters beyond 127, are no letters.
        bad("a=sheet`0", 7);
        bad("a=sheet{0", 7);
        bad("{=sheet 0", 0);
        bad("`=sheet 0", 0);
        bad("A=sheet 0", 0);
        bad("Z=sheet 0", 0);
        bad("a=Sheet 0", 2);
        bad("a=sheeT 0", 2);
        bad("a=shee" + (char) ('t' + 128) + " 0", 2);
        bad((char) ('a' + 128) + "=sheet 0", 0);
    }

    private static void wordsLetterByLetter() {
        CHECK.sentence("II: MAKING, HOW: these words alone");
        for (String making : MAKINGS) {
            String text = TWO_SHEETS + "c=" + making;
            for (int place = TWO_SHEETS.length() + 2; place < text.length(); place++) {
                int start = place;
                while (text.charAt(start - 1) >= 'a' && text.charAt(start - 1) <= 'z') {
                    start--;
                }
                boolean isLetter = text.charAt(place) >= 'a' && text.charAt(place) <= 'z';
                if (isLetter) {
                    bad(text.substring(0, place) + "q" + text.substring(place + 1), start);
                    bad(text.substring(0, place) + "qq" + text.substring(place + 1), start);
                    bad(text.substring(0, place) + text.charAt(place) + text.substring(place), start);
                }
            }
        }
        String[] shorter = {"shee 0", "ad a b", "les a b", "time a b", "leas a b", "mos a b", "wher a b", "wa a b",
            "i a b a", "fil a 1", "nea 1 sum a", "zon sum a b", "flo a", "sheetsheet 0"};
        for (String making : shorter) {
            bad(TWO_SHEETS + "c=" + making, TWO_SHEETS.length() + 2);
        }
    }

    private static void longestRowsOfDigits() {
        CHECK.sentence("II: TOKENS (longest rows of digits)");
        bad("a=sheet 00000000000000000000000000000000000004", 8);
        bad("a=sheet 10", 8);
        bad("a=sheet 30", 8);
        bad("a=sheet 33", 8);
        good("a=sheet 0;b=near2sum a", 2);
        bad("a=sheet 0;b=near22sum a", 16);
        // The bytes next to 0 .. 9, and digits beyond 127, are no digits.
        bad("a=sheet /", 8);
        bad("a=sheet :", 8);
        bad("a=sheet 0/", 9);
        bad("a=sheet 0:", 9);
        bad("a=sheet " + (char) ('2' + 128), 8);
        bad("a=sheet " + (char) 178, 8);
    }

    private static void singleOtherBytes() {
        CHECK.sentence("II: TOKENS (single other bytes)");
        bad("a==sheet 0", 2);
        bad("a=sheet 0;;b=sheet 1", 10);
        bad("a=sheet 0;=", 10);
        bad("a=sheet 0;b=fill a --5", 20);
        bad("a;=sheet 0", 1);
        for (int c = 0; c < 256; c++) {
            boolean isTokenOrBlank = c == ';' || c == ' ' || c >= '0' && c <= '9';
            if (!isTokenOrBlank) {
                bad("a=sheet 1 " + (char) c + "b=sheet 0", 10);
            }
        }
    }

    private static void boardsWithSemicolons() {
        CHECK.sentence("II: BOARD {\";\" BOARD}");
        good("a=sheet 0", 1);
        good("a=sheet 0;b=sheet 0", 2);
        bad("", 0);
        bad(";", 0);
        bad(";a=sheet 0", 0);
        bad("a=sheet 0;", 10);
        bad("a=sheet 0;;b=sheet 0", 10);
        bad("a=sheet 0 b=sheet 0", 10);
        bad("a=sheet 0,b=sheet 0", 9);
        bad("a=sheet 0:b=sheet 0", 9);
    }

    private static void boardWithEqualSign() {
        CHECK.sentence("II: BOARD: NAME \"=\" MAKING");
        good("a=sheet 0", 1);
        bad("a", 1);
        bad("a=", 2);
        bad("=", 0);
        bad("a sheet 0", 2);
        bad("a==sheet 0", 2);
        bad("a:sheet 0", 1);
        bad("a-sheet 0", 1);
        bad("a;sheet 0", 1);
        bad("a=a", 2);
        bad("a=0", 2);
        bad("a=;", 2);
        bad("a=b=sheet 0", 2);
        bad("a=sheet 0=sheet 0", 9);
    }

    private static void nameIsOneLetter() {
        CHECK.sentence("II: NAME: one letter");
        for (char c = 'a'; c <= 'z'; c++) {
            good(c + "=sheet 3", 1);
            bad(c + "" + c + "=sheet 3", 0);
        }
        bad("0=sheet 0", 0);
        bad("=sheet 0", 0);
        bad("add=sheet 0", 0);
        bad("ab=sheet 0", 0);
        bad("a=sheet 0;b=flow 0", 17);
        bad("a=sheet 0;b=flow flow", 17);
        bad("a=sheet 0;b=flow ab", 17);
    }

    private static void nameThatHasNoneYet() {
        CHECK.sentence("II: NAME: in its own BOARD one that has none yet");
        bad("a=sheet 0;a=sheet 0", 10);
        bad("a=sheet 0;b=flow a; a=flow b", 20);
        bad("z=sheet 0;b=flow z;z=?", 19);
        good("a=sheet 0;b=sheet 0", 2);
        BoardSums x = new BoardSums();
        CHECK.due("a text that can't be", Check.boards(x, "a=sheet 0;b=sheet 1;c="), -6);
        CHECK.due("its names have none", Check.boards(x, "c=sheet 0;b=sheet 1;a=sheet 2"), 3);
        CHECK.due("a new text's names have none yet", Check.boards(x, "a=sheet 0;c=flow a"), 2);
    }

    private static void nameThatHas() {
        CHECK.sentence("II: NAME: in a MAKING one that has");
        bad("a=flow a", 7);
        bad("a=flow b", 7);
        bad("b=sheet 0;c=add b a", 18);
        bad("b=sheet 0;c=add a b", 16);
        bad("b=sheet 0;c=if b b c", 19);
        bad("b=sheet 0;c=zone sum d b;d=sheet 0", 21);
        good("b=sheet 0;d=sheet 0;c=zone sum d b", 3);
        BoardSums x = new BoardSums();
        Check.boards(x, "a=sheet 0;b=sheet 1");
        CHECK.due("names of an earlier text have none", Check.boards(x, "c=sheet 0;d=add c a"), -6);
        CHECK.due("fault", x.fault(), 18);
        CHECK.due("names of a refused text have none", Check.boards(x, "e=flow c"), -6);
        CHECK.due("fault", x.fault(), 7);
    }

    private static void sheetNumbers() {
        CHECK.sentence("II: \"sheet\" N (0 .. 3)");
        BoardSums x = new BoardSums();
        for (int sheet = 0; sheet < 4; sheet++) {
            x.tell(sheet, 0, 0, 50 + sheet);
        }
        for (int sheet = 0; sheet < 4; sheet++) {
            CHECK.due("sheet " + sheet, Check.boards(x, "q=sheet " + sheet), 1);
            CHECK.due("cell of sheet " + sheet, x.cell(0, 0, 0), 50 + sheet);
        }
        bad("a=sheet 4", 8);
        bad("a=sheet 9", 8);
        bad("a=sheet -1", 8);
        bad("a=sheet -0", 8);
        bad("a=sheet a", 8);
        bad("a=sheet", 7);
        // These are 0 and 3, if they wrap around at 8, 16, 32 or 64 bits.
        bad("a=sheet 256", 8);
        bad("a=sheet 65539", 8);
        bad("a=sheet 4294967296", 8);
        bad("a=sheet 4294967299", 8);
        bad("a=sheet 18446744073709551616", 8);
        bad("a=sheet 18446744073709551619", 8);
    }

    private static void nearNumbers() {
        CHECK.sentence("II: \"near\" N (1 .. 3)");
        good("a=sheet 0;b=near 1 sum a;c=near 2 sum a;d=near 3 sum a", 4);
        bad("a=sheet 0;b=near 0 sum a", 17);
        bad("a=sheet 0;b=near 4 sum a", 17);
        bad("a=sheet 0;b=near -1 sum a", 17);
        bad("a=sheet 0;b=near sum a", 17);
        bad("a=sheet 0;b=near 12 sum a", 17);
        bad("a=sheet 0;b=near 4294967297 sum a", 17);
        bad("a=sheet 0;b=near 18446744073709551617 sum a", 17);
    }

    private static void hows() {
        CHECK.sentence("II: HOW: \"sum\" | \"most\" | \"least\" | \"count\"");
        for (String how : new String[] {"sum", "most", "least", "count"}) {
            good("a=sheet 0;b=near 1 " + how + " a", 2);
            good("a=sheet 0;b=zone " + how + " a a", 2);
        }
        String[] none = {"sheet", "add", "less", "times", "where", "way", "if", "fill", "near", "zone", "flow", "su",
            "sums", "counts", "mos", "greatest", "a", "1", "-", "="};
        for (String how : none) {
            bad("a=sheet 0;b=near 1 " + how + " a", 19);
            bad("a=sheet 0;b=zone " + how + " a a", 17);
        }
        bad("a=sheet 0;b=sum a a", 12);
        bad("a=sheet 0;b=count a a", 12);
    }

    private static void filled(String number, int value) {
        BoardSums x = new BoardSums();
        CHECK.due("fill with " + number, Check.boards(x, "a=sheet 0;b=fill a " + number), 2);
        CHECK.due("cell filled with " + number, x.cell(1, 0, 0), value);
    }

    private static void numbersToAMillion() {
        CHECK.sentence("II: NUMBER: [\"-\"] digits, to 1,000,000");
        filled("0", 0);
        filled("-0", 0);
        filled("1", 1);
        filled("-1", -1);
        filled("999999", 999999);
        filled("1000000", 1000000);
        filled("-1000000", -1000000);
        filled("- 1000000", -1000000);
        filled("0".repeat(200) + "1000000", 1000000);
        String start = "a=sheet 0;b=fill a ";
        bad(start + "1000001", 19);
        bad(start + "-1000001", 20);
        bad(start + "10000000", 19);
        bad(start + "2000000000", 19);
        bad(start + "-2000000000", 20);
        bad(start + "--1", 20);
        bad(start + "+1", 19);
        bad(start + "-", 20);
        bad(start + "1-", 20);
        bad(start + "-b", 20);
        bad(start + "b", 19);
        // These are 5 or so, if they wrap around.
        bad(start + "4294967301", 19);
        bad(start + "-4294967301", 20);
        bad(start + "18446744073709551621", 19);
        bad(start + "340282366920938463463374607431768211461", 19);
        bad(start + "1" + "0".repeat(280), 19);
        bad(start + "9".repeat(281), 19);
    }

    private static List<Integer> places(String text) {
        List<Integer> places = new ArrayList<>();
        Matcher m = Pattern.compile("[a-z]+|[0-9]+|[^ ]").matcher(text);
        while (m.find()) {
            places.add(m.start());
        }
        return places;
    }

    private static int endOfToken(String text, int place) {
        Matcher m = Pattern.compile("[a-z]+|[0-9]+|[^ ]").matcher(text);
        return m.find(place) ? m.end() : text.length();
    }

    private static void faultOfEachToken() {
        CHECK.sentence("II: FAULT: the first TOKEN that can't go on there");
        for (String making : MAKINGS) {
            String text = TWO_SHEETS + "c=" + making;
            good(text, 3);
            good(text + ";d=flow c", 4);
            for (int place : places(text)) {
                String behind = text.substring(endOfToken(text, place));
                bad(text.substring(0, place) + "?" + behind, place);
                // What is wrong behind it does not matter.
                bad(text.substring(0, place) + "? ! ;; ab", place);
            }
        }
    }

    private static void faultOfTheEnd() {
        CHECK.sentence("II: FAULT (the end's: the TEXT's length)");
        bad("", 0);
        bad(" ", 1);
        bad(" ".repeat(300), 300);
        for (String making : MAKINGS) {
            String text = TWO_SHEETS + "c=" + making;
            for (int place : places(text)) {
                String start = text.substring(0, place);
                boolean isWhole = start.endsWith("0") || start.endsWith("1");
                if (!isWhole) {
                    bad(start.stripTrailing(), start.stripTrailing().length());
                    bad(start + "   ", place + 3);
                }
            }
        }
    }

    private static void faultOfOneTokenMore() {
        CHECK.sentence("II: FAULT: a TOKEN behind a whole BOARD, but for \";\"");
        for (String making : MAKINGS) {
            String text = TWO_SHEETS + "c=" + making + " ";
            for (String more : new String[] {"a", "1", "-", "=", "sum", "sheet", "?", "-1"}) {
                bad(text + more, text.length());
            }
        }
    }

    private static void tenBoardsAtMost() {
        CHECK.sentence("II: 10 BOARDS at most (the 11th's NAME)");
        good(many(9), 9);
        good(many(10), 10);
        bad(many(11), many(10).length() + 1);
        bad(many(12), many(10).length() + 1);
        bad(many(10) + ";  k", many(10).length() + 3);
        bad(many(10) + ";a=sheet 0", many(10).length() + 1);
        bad(many(10) + ";?", many(10).length() + 1);
        bad(many(10) + ";", many(10).length() + 1);
        bad(many(10) + "k", many(10).length());
        BoardSums x = Check.of(2, 2, many(10));
        x.tell(1, 1, 1, 44);
        CHECK.due("the tenth's cell", x.cell(9, 1, 1), 44);
        CHECK.due("no eleventh", x.cell(10, 1, 1), BoardSums.GAP);
    }

    private static void numberedAsTheyCome() {
        CHECK.sentence("II: They are numbered as they come");
        BoardSums x = new BoardSums();
        Check.boards(x, "z=sheet 0;a=fill z 1;m=fill z 2;b=fill z 3");
        CHECK.due("z", x.cell(0, 0, 0), BoardSums.GAP);
        CHECK.due("a", x.cell(1, 0, 0), 1);
        CHECK.due("m", x.cell(2, 0, 0), 2);
        CHECK.due("b", x.cell(3, 0, 0), 3);
        CHECK.due("no more", x.cell(4, 0, 0), BoardSums.GAP);
        CHECK.due("none ahead", x.cell(-1, 0, 0), BoardSums.GAP);
    }

    private static void feedTwentyBytes() {
        CHECK.sentence("5: Twenty bytes come behind the TAPE, four of each number, the highest first");
        BoardSums x = new BoardSums();
        CHECK.due("feed", x.feed(0x61623D31, 0x32333435, 0x36373839, 0x30313233, 0x34353637), 20);
        CHECK.due("feed", x.feed(0, -1, MIN, MAX, 0x80808080), 40);
        CHECK.due("bytes", x.count(4), 40);
        x.boards();
        // "a=sheet 0;b=fill a 4" and "56789; c =fill b -12": each byte in its place
        x.feed(0x613D7368, 0x65657420, 0x303B623D, 0x66696C6C, 0x20612034);
        CHECK.due("behind it", x.feed(0x35363738, 0x393B2063, 0x203D6669, 0x6C6C2062, 0x202D3132), 40);
        CHECK.due("boards", x.boards(), 3);
        CHECK.due("digits over two feeds", x.cell(1, 0, 0), 456789);
        // A byte above 127 does not change those ahead of it or behind it.
        x.feed(0x613D7368, 0x65657420, 0x30FF623D, -1, -1);
        x.boards();
        CHECK.due("fault at 255", x.fault(), 9);
        x.feed(0xE13D7368, 0x65657420, 0x30202020, 0x20202020, 0x20202020);
        x.boards();
        CHECK.due("fault at 225", x.fault(), 0);
    }

    private static void feedBeyond300() {
        CHECK.sentence("5: NONE, if there would be more than 300");
        BoardSums x = new BoardSums();
        Check.feed(x, "a=sheet 0" + " ".repeat(291));
        CHECK.due("full", x.count(4), 300);
        CHECK.due("feed to 320", x.feed(-1, -1, -1, -1, -1), -1);
        CHECK.due("bytes stay", x.count(4), 300);
        for (int n = 299; n > 280; n--) {
            x.end(n);
            CHECK.due("feed to " + (n + 20), x.feed(-1, -1, -1, -1, -1), -1);
            CHECK.due("bytes stay", x.count(4), n);
        }
        x.end(280);
        CHECK.due("feed to 300", x.feed(0x20202020, 0x20202020, 0x20202020, 0x20202020, 0x20202020), 300);
        CHECK.due("feed to 320 again", x.feed(-1, -1, -1, -1, -1), -1);
        CHECK.due("status stays", x.status(), 0);
        CHECK.due("what was refused is not there", x.boards(), 1);
        CHECK.due("room again", x.feed(0, 0, 0, 0, 0), 20);
    }

    private static void endFirstBytesAlone() {
        CHECK.sentence("6: The TAPE has its first n bytes alone: n");
        BoardSums x = new BoardSums();
        Check.feed(x, "a=sheet 0;b=sheet 1");
        CHECK.due("end of all", x.end(19), 19);
        CHECK.due("bytes", x.count(4), 19);
        CHECK.due("end(9)", x.end(9), 9);
        CHECK.due("bytes", x.count(4), 9);
        CHECK.due("feed behind them", x.feed(0x3B633D66, 0x6C6F7720, 0x61202020, 0x20202020, 0x20202020), 29);
        CHECK.due("boards", x.boards(), 2);
        CHECK.due("c=flow a", x.cell(1, 0, 0), BoardSums.GAP);
        CHECK.due("made of it", x.made(), 5);
        Check.feed(x, "a=sheet 0");
        CHECK.due("end(0)", x.end(0), 0);
        CHECK.due("bytes", x.count(4), 0);
        CHECK.due("end(0) again", x.end(0), 0);
        CHECK.due("boards of none", x.boards(), -6);
        CHECK.due("fault of none", x.fault(), 0);
    }

    private static void endOfMoreThanThereAre() {
        CHECK.sentence("6: NONE, if it has not so many, or n is below 0");
        BoardSums x = new BoardSums();
        CHECK.due("end(1) of none", x.end(1), -1);
        CHECK.due("end(20) of none", x.end(20), -1);
        CHECK.due("end(-1) of none", x.end(-1), -1);
        x.feed(0, 0, 0, 0, 0);
        for (int n : new int[] {21, 300, 301, MAX, -1, -20, MIN}) {
            CHECK.due("end(" + n + ") of 20", x.end(n), -1);
            CHECK.due("bytes stay", x.count(4), 20);
        }
        x.end(10);
        CHECK.due("bytes that are gone don't come back", x.end(11), -1);
        CHECK.due("bytes stay", x.count(4), 10);
        CHECK.due("status stays", x.status(), 0);
        x.boards();
        CHECK.due("end(1) after boards()", x.end(1), -1);
    }

    private static void boardsEmptyTheTape() {
        CHECK.sentence("7: The TAPE, which is empty then, becomes BOARDS: how many");
        BoardSums x = new BoardSums();
        CHECK.due("three", Check.boards(x, "a=sheet 0;b=sheet 0;c=sheet 0"), 3);
        CHECK.due("boards", x.count(2), 3);
        CHECK.due("no bytes", x.count(4), 0);
        CHECK.due("one", Check.boards(x, "a=sheet 0"), 1);
        CHECK.due("boards", x.count(2), 1);
        CHECK.due("a text that can't be", Check.boards(x, "a=sheet 0;"), -6);
        CHECK.due("no bytes", x.count(4), 0);
        CHECK.due("the next text is not behind it", Check.boards(x, "b=sheet 0;c=flow b"), 2);
    }

    private static void boardsOfTheNewTextAlone() {
        CHECK.sentence("7: The TAPE becomes BOARDS: nothing is left of an earlier TEXT");
        BoardSums x = new BoardSums();
        for (int sheet = 0; sheet < 4; sheet++) {
            x.tell(sheet, 0, 0, 10 + sheet);
        }
        String[] texts = {"a=sheet 1;b=sheet 2;c=if a a b;d=near 3 count c", "a=sheet 0;b=sheet 3;c=less b a;d=flow c",
            "a=sheet 2;b=sheet 0;c=fill b 4;d=zone sum c c", "a=sheet 3;b=sheet 1;c=flow b;d=fill c 9",
            "a=sheet 0;b=sheet 2;c=near 1 sum b;d=where c a", "a=sheet 1;b=sheet 1;c=sheet 3;d=sheet 2"};
        int[] ofC = {11, 3, 10, 1, 12, 13};
        int[] ofD = {1, 1, 10, 1, 12, 12};
        int[] cFrom = {0b0110, 0b1001, 0b0001, 0b0010, 0b0100, 0b1000};
        for (int i = 0; i < texts.length; i++) {
            CHECK.due("refused ahead of " + i, Check.boards(x, "a=sheet 3;b=if a a a;c=zone most b b;d=if"), -6);
            CHECK.due("boards " + i, Check.boards(x, texts[i]), 4);
            CHECK.due("c of text " + i, x.cell(2, 0, 0), ofC[i]);
            CHECK.due("d of text " + i, x.cell(3, 0, 0), ofD[i]);
            for (int sheet = 0; sheet < 4; sheet++) {
                int bits = x.from(2, 0, sheet) & 1;
                CHECK.due("c of text " + i + " from sheet " + sheet, bits, cFrom[i] >> sheet & 1);
            }
        }
    }

    private static void boardsNoTileFresh() {
        CHECK.sentence("7: (no TILE is FRESH)");
        BoardSums x = new BoardSums();
        x.tell(0, 0, 0, 5);
        Check.boards(x, "a=sheet 0;b=fill a 1;c=flow b");
        Check.askAll(x, 2);
        CHECK.due("fresh ahead of it", x.count(5), 12);
        CHECK.due("the same text", Check.boards(x, "a=sheet 0;b=fill a 1;c=flow b"), 3);
        CHECK.due("fresh", x.count(5), 0);
        for (int board = 0; board < 3; board++) {
            CHECK.due("fresh tiles of " + board, Check.freshBits(x, board), 0);
        }
        Check.askAll(x, 2);
        CHECK.due("fewer boards", Check.boards(x, "a=sheet 0"), 1);
        CHECK.due("fresh", x.count(5), 0);
        CHECK.due("more boards again", Check.boards(x, "a=sheet 1;b=fill a 2;c=fill b 3"), 3);
        CHECK.due("fresh", x.count(5), 0);
        CHECK.due("the sheets stay", x.told(0, 0, 0), 5);
        CHECK.due("made anew", x.cell(2, 0, 0), 2);
        CHECK.due("made", x.made(), 12 + 12 + 3);
    }

    private static void boardsRefusedStay() {
        CHECK.sentence("7: -6: they stay, FAULT is told");
        String[] texts = {"", "?", "c=sheet 4", "c=sheet 3;d=sheet 3;e=sheet 3;f=sheet 3;", "b=sheet 3;a=fill b 9;"};
        int[] faults = {0, 0, 8, 40, 21};
        for (int i = 0; i < texts.length; i++) {
            BoardSums x = new BoardSums();
            Check.boards(x, "a=sheet 0;b=fill a 5");
            x.cell(1, 0, 0);
            CHECK.due("boards of '" + texts[i] + "'", Check.boards(x, texts[i]), -6);
            CHECK.due("fault", x.fault(), faults[i]);
            CHECK.due("status", x.status(), -6);
            CHECK.due("boards stay", x.count(2), 2);
            CHECK.due("fresh tiles stay", x.count(5), 2);
            CHECK.due("its cell stays", x.cell(1, 0, 0), 5);
            CHECK.due("not made again", x.made(), 2);
            CHECK.due("another tile is made as before", x.cell(1, 7, 7), 5);
            CHECK.due("needs stay", x.from(1, 4, 0), 16);
            CHECK.due("needs of sheet 3", x.from(1, 4, 3), 0);
            x.tell(0, 0, 0, 8);
            CHECK.due("lost as before", x.fresh(1, 0), 0);
            CHECK.due("told as before", x.cell(1, 0, 0), 8);
        }
    }

    private static void boardsOfNone() {
        CHECK.sentence("I: -6 there is none");
        BoardSums x = new BoardSums();
        CHECK.due("boards of no bytes", x.boards(), -6);
        CHECK.due("status", x.status(), -6);
        CHECK.due("fault", x.fault(), 0);
        Check.boards(x, "a=sheet 0");
        CHECK.due("boards of no bytes after a good text", x.boards(), -6);
        CHECK.due("fault", x.fault(), 0);
        CHECK.due("boards stay", x.count(2), 1);
        CHECK.due("back of an image that is none", x.back(0), -6);
    }

    private static void faultOfTheLatest() {
        CHECK.sentence("8: FAULT of the latest boards(): its place; NONE without");
        BoardSums x = new BoardSums();
        CHECK.due("ahead of any", x.fault(), -1);
        Check.boards(x, "a=sheet 9");
        CHECK.due("of the first", x.fault(), 8);
        CHECK.due("asked again", x.fault(), 8);
        Check.boards(x, "a=?");
        CHECK.due("of the second", x.fault(), 2);
        Check.feed(x, "a=sheet 0");
        x.size(5, 5);
        x.tell(0, 9, 9, 0);
        x.back(0);
        CHECK.due("other calls leave it", x.fault(), 2);
        x.boards();
        CHECK.due("of a good one", x.fault(), -1);
        x.boards();
        CHECK.due("of none", x.fault(), 0);
    }
}
