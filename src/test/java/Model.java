import java.util.ArrayList;
import java.util.HashMap;
import java.util.HashSet;
import java.util.List;
import java.util.Map;
import java.util.Set;

/** The document's words taken literally and slowly: each need by looking at cells, each loss until nothing changes. */
final class Model {
    static final int GAP = BoardSums.GAP;

    record Making(String word, int number, String how, List<Integer> named) { }

    private int w = 8;
    private int h = 8;
    private final Map<List<Integer>, Integer> told = new HashMap<>();
    private final Map<Integer, Map<List<Integer>, Integer>> images = new HashMap<>();
    private String tape = "";
    private List<Making> boards = new ArrayList<>();
    private final Map<List<Integer>, Integer> values = new HashMap<>();
    private final Set<List<Integer>> fresh = new HashSet<>();
    private int faultPlace = -1;
    private int made = 0;
    private int status = 0;

    private int answer(int refusal, int value) {
        status = refusal;
        return refusal != 0 ? refusal : value;
    }

    private boolean isCell(int x, int y) {
        return 0 <= x && x < w && 0 <= y && y < h;
    }

    private boolean isTile(int t) {
        return 0 <= t && t <= 8 && isCell(t % 3 * 4, t / 3 * 4);
    }

    private static int tile(int x, int y) {
        return y / 4 * 3 + x / 4;
    }

    int size(int w, int h) {
        if (w < 2 || w > 12 || h < 2 || h > 12) {
            return answer(-1, 0);
        }
        this.w = w;
        this.h = h;
        told.clear();
        images.clear();
        fresh.clear();
        values.clear();
        return answer(0, 0);
    }

    int tell(int sheet, int x, int y, int value) {
        if (sheet < 0 || sheet > 3 || value != GAP && Math.abs((long) value) > 1000000) {
            return answer(-1, 0);
        }
        if (!isCell(x, y)) {
            return answer(-2, 0);
        }
        tellCell(sheet, x, y, value);
        return answer(0, 0);
    }

    private void tellCell(int sheet, int x, int y, int value) {
        told.put(List.of(sheet, x, y), value);
        for (int b = 0; b < boards.size(); b++) {
            if (boards.get(b).word.equals("sheet") && boards.get(b).number == sheet) {
                fresh.remove(List.of(b, tile(x, y)));
            }
        }
        boolean changed = true;
        while (changed) {
            changed = fresh.removeIf(t -> !fresh.containsAll(needs(t.get(0), t.get(1))));
        }
    }

    int told(int sheet, int x, int y) {
        return isCell(x, y) ? told.getOrDefault(List.of(sheet, x, y), GAP) : GAP;
    }

    int feed(int... numbers) {
        StringBuilder more = new StringBuilder();
        for (int n : numbers) {
            more.append((char) (n >> 24 & 255)).append((char) (n >> 16 & 255));
            more.append((char) (n >> 8 & 255)).append((char) (n & 255));
        }
        if (tape.length() + 20 > 300) {
            return -1;
        }
        tape += more;
        return tape.length();
    }

    int end(int n) {
        if (n < 0 || n > tape.length()) {
            return -1;
        }
        tape = tape.substring(0, n);
        return n;
    }

    int boards() {
        ModelReader reader = new ModelReader(tape);
        tape = "";
        faultPlace = reader.fault();
        if (faultPlace != -1) {
            return answer(-6, 0);
        }
        boards = reader.makings();
        fresh.clear();
        values.clear();
        return answer(0, boards.size());
    }

    int fault() {
        return faultPlace;
    }

    int cell(int board, int x, int y) {
        if (board < 0 || board >= boards.size() || !isCell(x, y)) {
            return GAP;
        }
        make(board, tile(x, y));
        return values.get(List.of(board, x, y));
    }

    int fresh(int board, int t) {
        if (board < 0 || board >= boards.size() || !isTile(t)) {
            return -1;
        }
        return fresh.contains(List.of(board, t)) ? 1 : 0;
    }

    int from(int board, int t, int sheet) {
        if (board < 0 || board >= boards.size() || !isTile(t) || sheet < 0 || sheet > 3) {
            return -1;
        }
        Making m = boards.get(board);
        int bits = m.word.equals("sheet") && m.number == sheet ? 1 << t : 0;
        for (List<Integer> need : needs(board, t)) {
            bits |= from(need.get(0), need.get(1), sheet);
        }
        return bits;
    }

    int made() {
        return made;
    }

    int image(int k) {
        if (k < 0 || k > 2) {
            return answer(-1, 0);
        }
        images.put(k, new HashMap<>(told));
        return answer(0, 0);
    }

    int back(int k) {
        if (k < 0 || k > 2) {
            return answer(-1, 0);
        }
        if (!images.containsKey(k)) {
            return answer(-6, 0);
        }
        int tellings = 0;
        for (int sheet = 0; sheet < 4; sheet++) {
            for (int y = 0; y < h; y++) {
                for (int x = 0; x < w; x++) {
                    int was = images.get(k).getOrDefault(List.of(sheet, x, y), GAP);
                    if (was != told(sheet, x, y)) {
                        tellCell(sheet, x, y, was);
                        tellings++;
                    }
                }
            }
        }
        return answer(0, tellings);
    }

    int count(int what) {
        int tiles = 0;
        for (int t = 0; t < 9; t++) {
            tiles += isTile(t) ? 1 : 0;
        }
        int[] all = {w, h, boards.size(), tiles, tape.length(), fresh.size()};
        return what >= 0 && what < 6 ? all[what] : -1;
    }

    int status() {
        return status;
    }

    private Set<List<Integer>> needs(int board, int t) {
        Making m = boards.get(board);
        Set<List<Integer>> needs = new HashSet<>();
        for (int b : m.named) {
            for (int other = 0; other < 9; other++) {
                if (isTile(other) && isNeeded(m, t, other)) {
                    needs.add(List.of(b, other));
                }
            }
        }
        return needs;
    }

    private boolean isNeeded(Making m, int t, int other) {
        return switch (m.word) {
            case "zone", "way", "flow" -> true;
            case "near" -> isWithin(m.number, t, other);
            default -> t == other;
        };
    }

    private boolean isWithin(int r, int t, int other) {
        for (int[] c : cells(t)) {
            for (int[] d : cells(other)) {
                if (Math.abs(c[0] - d[0]) <= r && Math.abs(c[1] - d[1]) <= r) {
                    return true;
                }
            }
        }
        return false;
    }

    private List<int[]> cells(int t) {
        List<int[]> cells = new ArrayList<>();
        for (int y = 0; y < h; y++) {
            for (int x = 0; x < w; x++) {
                if (t == -1 || tile(x, y) == t) {
                    cells.add(new int[] {x, y});
                }
            }
        }
        return cells;
    }

    private void make(int board, int t) {
        if (fresh.contains(List.of(board, t))) {
            return;
        }
        for (List<Integer> need : needs(board, t)) {
            make(need.get(0), need.get(1));
        }
        for (int[] c : cells(t)) {
            Long value = value(boards.get(board), c[0], c[1]);
            boolean isGap = value == null || Math.abs(value) > 1000000000L;
            values.put(List.of(board, c[0], c[1]), isGap ? GAP : (int) (long) value);
        }
        made++;
        fresh.add(List.of(board, t));
    }

    private Long at(int board, int x, int y) {
        if (!fresh.contains(List.of(board, tile(x, y)))) {
            throw new IllegalStateException("the model's needs are too few");
        }
        int value = values.get(List.of(board, x, y));
        return value == GAP ? null : Long.valueOf(value);
    }

    private Long value(Making m, int x, int y) {
        if (m.word.equals("sheet")) {
            int value = told(m.number, x, y);
            return value == GAP ? null : Long.valueOf(value);
        }
        int first = m.named.get(0);
        int second = m.named.size() > 1 ? m.named.get(1) : first;
        Long a = at(first, x, y);
        switch (m.word) {
            case "fill": return a == null ? Long.valueOf(m.number) : a;
            case "near": return tally(m, x, y);
            case "flow": return a == null ? null : Long.valueOf(flow(first, x, y));
            default: break;
        }
        Long b = at(second, x, y);
        switch (m.word) {
            case "if": return a == null ? null : a > 0 ? b : at(m.named.get(2), x, y);
            case "where": return b != null && b > 0 ? a : null;
            case "zone": return b == null ? null : tally(m, x, y);
            case "way": return b == null ? null : way(first, second, x, y);
            default: break;
        }
        if (a == null || b == null) {
            return null;
        }
        return switch (m.word) {
            case "add" -> a + b;
            case "less" -> a - b;
            case "times" -> a * b;
            case "least" -> Math.min(a, b);
            default -> Math.max(a, b);
        };
    }

    private Long tally(Making m, int x, int y) {
        List<Long> all = new ArrayList<>();
        for (int[] c : cells(-1)) {
            boolean isOf = m.word.equals("near")
                ? Math.abs(c[0] - x) <= m.number && Math.abs(c[1] - y) <= m.number
                : at(m.named.get(1), x, y).equals(at(m.named.get(1), c[0], c[1]));
            if (isOf && at(m.named.get(0), c[0], c[1]) != null) {
                all.add(at(m.named.get(0), c[0], c[1]));
            }
        }
        if (m.how.equals("count")) {
            return (long) all.size();
        }
        if (all.isEmpty()) {
            return null;
        }
        return switch (m.how) {
            case "sum" -> all.stream().mapToLong(v -> v).sum();
            case "most" -> all.stream().mapToLong(v -> v).max().getAsLong();
            default -> all.stream().mapToLong(v -> v).min().getAsLong();
        };
    }

    private static final int[][] SIDES = {{1, 0}, {0, 1}, {-1, 0}, {0, -1}};

    /** The nearest cell that is not settled yet is settled next, until that one is. */
    private Long way(int a, int b, int x, int y) {
        Map<List<Integer>, Long> open = new HashMap<>();
        Set<List<Integer>> settled = new HashSet<>();
        for (int[] c : cells(-1)) {
            Long start = at(a, c[0], c[1]);
            if (start != null && start > 0 && at(b, c[0], c[1]) != null) {
                open.put(List.of(c[0], c[1]), 0L);
            }
        }
        while (!open.isEmpty()) {
            List<Integer> best = null;
            for (List<Integer> c : open.keySet()) {
                best = best == null || open.get(c) < open.get(best) ? c : best;
            }
            long sum = open.remove(best);
            if (best.equals(List.of(x, y))) {
                return sum;
            }
            settled.add(best);
            for (int[] side : SIDES) {
                List<Integer> next = List.of(best.get(0) + side[0], best.get(1) + side[1]);
                if (isCell(next.get(0), next.get(1)) && at(b, next.get(0), next.get(1)) != null
                    && !settled.contains(next)) {
                    open.merge(next, sum + Math.max(0, at(b, next.get(0), next.get(1))), Math::min);
                }
            }
        }
        return null;
    }

    private long flow(int a, int x, int y) {
        long all = 1;
        for (int[] side : SIDES) {
            int[] target = isCell(x + side[0], y + side[1]) ? target(a, x + side[0], y + side[1]) : null;
            if (target != null && target[0] == x && target[1] == y) {
                all += flow(a, x + side[0], y + side[1]);
            }
        }
        return all;
    }

    private int[] target(int a, int x, int y) {
        if (at(a, x, y) == null) {
            return null;
        }
        long least = at(a, x, y);
        int[] target = null;
        for (int[] side : SIDES) {
            int u = x + side[0];
            int v = y + side[1];
            if (isCell(u, v) && at(a, u, v) != null && at(a, u, v) < least) {
                least = at(a, u, v);
                target = new int[] {u, v};
            }
        }
        return target;
    }
}
