import java.util.Random;

/** Long runs of mixed calls (the same ones each time), each answer compared with the model's. */
public final class ModelTest {
    private static final int RUNS = 600;
    private static final String[] TWO = {"add", "less", "times", "least", "most", "where", "way"};
    private static final String[] HOW = {"sum", "most", "least", "count"};
    private static final Check CHECK = new Check();

    private final Random random;
    private final BoardSums x = new BoardSums();
    private final Model m = new Model();
    private final int run;
    /** Most values of a run are below this. */
    private final int spread;
    private int calls = 0;

    private ModelTest(int run) {
        this.run = run;
        random = new Random(run * 7919L + 1);
        spread = run % 3 == 0 ? 4 : run % 3 == 1 ? 30 : 1000001;
    }

    public static void main(String[] args) {
        for (int run = 0; run < RUNS && CHECK.isRight(); run++) {
            new ModelTest(run).play();
        }
        CHECK.end();
    }

    private int below(int n) {
        return random.nextInt(n);
    }

    private void due(String call, int got, int want) {
        calls++;
        CHECK.due("run " + run + " call " + calls + ": " + call, got, want);
    }

    private void play() {
        // Every fifth run stays on a new object's 8 times 8 cells.
        if (run % 5 != 0) {
            size(run % 4 == 0 ? 12 : 2 + below(11), run % 4 == 0 ? 12 : 2 + below(11));
        }
        tellMany(20 + below(100));
        giveText(goodText());
        while (calls < 480) {
            step();
        }
        for (int board = 0; board < m.count(2); board++) {
            int b = board;
            int u = below(12);
            int v = below(12);
            due("cell(" + b + ", " + u + ", " + v + ")", x.cell(b, u, v), m.cell(b, u, v));
        }
    }

    private void step() {
        switch (below(20)) {
            case 0: tellMany(1 + below(12)); break;
            case 1: case 2: case 3: tellMany(1); break;
            case 4: images(); break;
            case 5: if (below(4) == 0) giveText(below(3) == 0 ? spoilt(goodText()) : goodText()); break;
            case 6: if (below(12) == 0) size(1 + below(13), 1 + below(13)); break;
            case 7: case 8: asks(); break;
            case 9: plain(); break;
            case 10: wild(); break;
            default: cell(); break;
        }
        due("made", x.made(), m.made());
        due("count(5)", x.count(5), m.count(5));
    }

    private void size(int w, int h) {
        due("size(" + w + ", " + h + ")", x.size(w, h), m.size(w, h));
    }

    private void tellMany(int n) {
        for (int i = 0; i < n; i++) {
            int sheet = below(40) == 0 ? below(7) - 1 : below(3);
            int u = below(60) == 0 ? below(15) - 1 : below(m.count(0));
            int v = below(60) == 0 ? below(15) - 1 : below(m.count(1));
            int value = below(6) == 0 ? BoardSums.GAP : below(60) == 0 ? 999999 + below(3)
                : below(spread) - spread / 4;
            due("tell(" + sheet + ", " + u + ", " + v + ", " + value + ")", x.tell(sheet, u, v, value),
                m.tell(sheet, u, v, value));
        }
    }

    private void images() {
        int k = below(5) - 1;
        if (below(2) == 0) {
            due("image(" + k + ")", x.image(k), m.image(k));
        } else {
            due("back(" + k + ")", x.back(k), m.back(k));
        }
        due("status", x.status(), m.status());
    }

    private void asks() {
        int board = below(12) - 1;
        int tile = below(11) - 1;
        int sheet = below(6) - 1;
        due("fresh(" + board + ", " + tile + ")", x.fresh(board, tile), m.fresh(board, tile));
        due("from(" + board + ", " + tile + ", " + sheet + ")", x.from(board, tile, sheet), m.from(board, tile, sheet));
    }

    private void plain() {
        int n = below(8) - 1;
        int u = below(14) - 1;
        int v = below(14) - 1;
        due("count(" + n + ")", x.count(n), m.count(n));
        due("told(" + n + ", " + u + ", " + v + ")", x.told(n, u, v), m.told(n, u, v));
        due("status", x.status(), m.status());
        due("fault", x.fault(), m.fault());
    }

    private int any() {
        int[] far = {Integer.MIN_VALUE, Integer.MAX_VALUE, Integer.MIN_VALUE + 1, -1, 0, 31, 32, 144, 1 << 30,
            BoardSums.GAP - 1, 1000000001};
        return below(3) == 0 ? random.nextInt() : far[below(far.length)];
    }

    /** Numbers far beyond what can be, in every call that takes some. */
    private void wild() {
        int a = any();
        int b = any();
        int c = any();
        int d = any();
        String numbers = "(" + a + ", " + b + ", " + c + ", " + d + ")";
        due("tell" + numbers, x.tell(a, b, c, d), m.tell(a, b, c, d));
        due("told" + numbers, x.told(a, b, c), m.told(a, b, c));
        due("cell" + numbers, x.cell(a, b, c), m.cell(a, b, c));
        due("fresh" + numbers, x.fresh(a, b), m.fresh(a, b));
        due("from" + numbers, x.from(a, b, c), m.from(a, b, c));
        due("back" + numbers, x.back(a), m.back(a));
        due("size" + numbers, x.size(a, b), m.size(a, b));
        due("image" + numbers, x.image(a), m.image(a));
        due("count" + numbers, x.count(a), m.count(a));
        due("end" + numbers, x.end(a), m.end(a));
        due("status", x.status(), m.status());
    }

    private void cell() {
        int board = below(11);
        int u = below(15) == 0 ? below(15) - 1 : below(m.count(0));
        int v = below(15) == 0 ? below(15) - 1 : below(m.count(1));
        due("cell(" + board + ", " + u + ", " + v + ")", x.cell(board, u, v), m.cell(board, u, v));
    }

    private void giveText(String text) {
        int[] n = Check.feeds(text);
        for (int i = 0; i < n.length; i += 5) {
            due("feed of '" + text + "'", x.feed(n[i], n[i + 1], n[i + 2], n[i + 3], n[i + 4]),
                m.feed(n[i], n[i + 1], n[i + 2], n[i + 3], n[i + 4]));
        }
        due("end(" + text.length() + ")", x.end(text.length()), m.end(text.length()));
        due("boards of '" + text + "'", x.boards(), m.boards());
        due("fault of '" + text + "'", x.fault(), m.fault());
        due("status of '" + text + "'", x.status(), m.status());
    }

    private String goodText() {
        StringBuilder text = new StringBuilder();
        int boards = 1 + below(10);
        int first = below(16);
        for (int b = 0; b < boards; b++) {
            String board = (b == 0 ? "" : ";") + (char) ('a' + first + b) + "=" + making(first, b);
            if (text.length() + board.length() > 300) {
                break;
            }
            text.append(board);
        }
        return text.toString();
    }

    private String making(int first, int boards) {
        if (boards == 0 || below(5) == 0) {
            return "sheet " + below(3);
        }
        String a = name(first, boards);
        String b = name(first, boards);
        String how = HOW[below(4)];
        switch (below(8)) {
            case 0: return "if " + a + " " + b + " " + name(first, boards);
            case 1: return "fill " + a + (below(3) == 0 ? " -" : " ") + below(spread);
            case 2: return "near " + (1 + below(3)) + " " + how + " " + a;
            case 3: return "zone " + how + " " + a + " " + b;
            case 4: return "flow " + a;
            case 5: return "way " + a + " " + b;
            default: return TWO[below(7)] + " " + a + " " + b;
        }
    }

    private String name(int first, int boards) {
        return "" + (char) ('a' + first + below(boards));
    }

    /** One byte is put in, taken out or made another. */
    private String spoilt(String text) {
        String signs = "abst=;- 0149A" + (char) 200;
        int at = below(text.length());
        String sign = "" + signs.charAt(below(signs.length()));
        switch (below(3)) {
            case 0: return text.length() < 300 ? text.substring(0, at) + sign + text.substring(at) : text;
            case 1: return text.substring(0, at) + text.substring(at + 1);
            default: return text.substring(0, at) + sign + text.substring(at + 1);
        }
    }
}
