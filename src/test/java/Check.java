import java.nio.charset.StandardCharsets;
import java.util.Arrays;

/** What the tests share: telling answers that are not as due, and feeding a text. */
final class Check {
    private int wrong = 0;
    private int asked = 0;
    private String sentence = "";

    /** The document's words that the answers from here on are due by. */
    void sentence(String words) {
        sentence = "[" + words + "] ";
    }

    void due(String call, int got, int want) {
        asked++;
        if (got != want) {
            wrong++;
            System.out.println(sentence + call + " answered " + got + ", due is " + want);
        }
    }

    void end() {
        System.out.println(asked + " answers, " + wrong + " not as due");
        if (wrong != 0 || asked == 0) {
            System.exit(1);
        }
    }

    boolean isRight() {
        return wrong == 0;
    }

    /** Five numbers for each feed that the text needs, blanks behind it. */
    static int[] feeds(String text) {
        byte[] bytes = text.getBytes(StandardCharsets.ISO_8859_1);
        byte[] padded = Arrays.copyOf(bytes, (bytes.length + 19) / 20 * 20);
        Arrays.fill(padded, bytes.length, padded.length, (byte) ' ');
        int[] numbers = new int[padded.length / 4];
        for (int i = 0; i < padded.length; i++) {
            numbers[i / 4] = numbers[i / 4] << 8 | padded[i] & 255;
        }
        return numbers;
    }

    static void feed(BoardSums x, String text) {
        int[] n = feeds(text);
        for (int i = 0; i < n.length; i += 5) {
            x.feed(n[i], n[i + 1], n[i + 2], n[i + 3], n[i + 4]);
        }
        x.end(text.length());
    }

    static int boards(BoardSums x, String text) {
        feed(x, text);
        return x.boards();
    }

    static BoardSums of(int w, int h, String text) {
        BoardSums x = new BoardSums();
        x.size(w, h);
        boards(x, text);
        return x;
    }

    /** Asks a cell of each tile that there is. */
    static void askAll(BoardSums x, int board) {
        for (int y = 0; y < x.count(1); y += 4) {
            for (int u = 0; u < x.count(0); u += 4) {
                x.cell(board, u, y);
            }
        }
    }

    /** The fresh tiles of a board, as bits. */
    static int freshBits(BoardSums x, int board) {
        int bits = 0;
        for (int tile = 0; tile < 9; tile++) {
            bits |= x.fresh(board, tile) == 1 ? 1 << tile : 0;
        }
        return bits;
    }

    /** Tells a sheet row by row, y = 0 first; null is a gap. */
    static void tellAll(BoardSums x, int sheet, Integer[][] rows) {
        for (int y = 0; y < rows.length; y++) {
            for (int u = 0; u < rows[y].length; u++) {
                x.tell(sheet, u, y, rows[y][u] == null ? BoardSums.GAP : rows[y][u]);
            }
        }
    }
}
