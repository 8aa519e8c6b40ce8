import java.util.Arrays;

/**
 * Boards of cells that a text in a small language makes from told sheets, tile by tile and only when asked.
 * The document ../shared/DOC.md says what each call promises.
 */
public final class BoardSums {
    public static final int NONE = -1;
    public static final int GAP = -2000000000;

    private static final int BAD_NUMBER = -1;
    private static final int NO_SUCH = -2;
    private static final int NO_TEXT = -6;

    private static final int SIDE_LEAST = 2;
    private static final int SIDE_MOST = 12;
    private static final int SIDE_FIRST = 8;
    private static final int TILE_SIDE = 4;
    private static final int TILES_ACROSS = 3;
    private static final int TILES_MOST = 9;
    private static final int SHEETS = 4;
    private static final int IMAGES = 3;
    private static final int BOARDS_MOST = 10;
    private static final int NAMES_MOST = 3;
    private static final int LETTERS = 26;
    private static final int TAPE_MOST = 300;
    private static final int FEED_BYTES = 20;
    private static final int TOLD_MOST = 1000000;
    private static final int VALUE_MOST = 1000000000;

    /** The cells' places stand within a margin of gaps, so that each cell has a place at each of its sides. */
    private static final int ROW = SIDE_MOST + 2;
    private static final int PLACES = ROW * ROW;
    private static final int FIRST_PLACE = ROW + 1;
    private static final int LAST_PLACE = SIDE_MOST * ROW + SIDE_MOST;

    /** The tiles that have no tile at their left, and those that have none at their right, as bits. */
    private static final int LEFT_TILES = 1 | 1 << 3 | 1 << 6;
    private static final int RIGHT_TILES = LEFT_TILES << 2;

    /** The words: up to FLOW those that begin a making; SUM, MOST, LEAST, COUNT say how. */
    private static final int SHEET = 0;
    private static final int ADD = 1;
    private static final int LESS = 2;
    private static final int TIMES = 3;
    private static final int LEAST = 4;
    private static final int MOST = 5;
    private static final int WHERE = 6;
    private static final int WAY = 7;
    private static final int IF = 8;
    private static final int FILL = 9;
    private static final int NEAR = 10;
    private static final int ZONE = 11;
    private static final int FLOW = 12;
    private static final int SUM = 13;
    private static final int COUNT = 14;
    private static final int WORDS = 15;

    /** The kinds of tokens. A word that the language has not is of kind TOKEN_OTHER. */
    private static final int TOKEN_END = 0;
    private static final int TOKEN_LETTER = 1;
    private static final int TOKEN_WORD = 2;
    private static final int TOKEN_NUMBER = 3;
    private static final int TOKEN_SIGN = 4;
    private static final int TOKEN_OTHER = 5;

    private final Grid grid;
    private final Sheets sheets;
    private final Tape tape;
    private final Reader reader;
    private final Works works;
    private Plan plan;
    private Plan draft;
    private int faultPlace;
    private int refusal;

    public BoardSums() {
        grid = new Grid();
        sheets = new Sheets();
        tape = new Tape();
        plan = new Plan();
        draft = new Plan();
        reader = new Reader(tape, draft);
        works = new Works(grid, sheets, plan);
        faultPlace = NONE;
        refusal = 0;
    }

    public int size(int w, int h) {
        if (!isSide(w) || !isSide(h)) {
            return refuse(BAD_NUMBER);
        }
        grid.shape(w, h);
        sheets.empty();
        works.empty();
        return accept(0);
    }

    public int tell(int sheet, int x, int y, int value) {
        if (!isSheet(sheet) || !isTellable(value)) {
            return refuse(BAD_NUMBER);
        }
        if (!grid.hasCell(x, y)) {
            return refuse(NO_SUCH);
        }
        put(sheet, placeOf(x, y), value);
        return accept(0);
    }

    public int told(int sheet, int x, int y) {
        if (!isSheet(sheet) || !grid.hasCell(x, y)) {
            return GAP;
        }
        return sheets.cells[sheet][placeOf(x, y)];
    }

    public int feed(int a, int b, int c, int d, int e) {
        if (!tape.hasRoom(FEED_BYTES)) {
            return NONE;
        }
        tape.append(a);
        tape.append(b);
        tape.append(c);
        tape.append(d);
        tape.append(e);
        return tape.length;
    }

    public int end(int n) {
        if (n < 0 || n > tape.length) {
            return NONE;
        }
        tape.length = n;
        return n;
    }

    public int boards() {
        faultPlace = reader.read(draft);
        tape.length = 0;
        if (faultPlace != NONE) {
            return refuse(NO_TEXT);
        }
        Plan former = plan;
        plan = draft;
        draft = former;
        works.follow(plan);
        return accept(plan.length);
    }

    public int fault() {
        return faultPlace;
    }

    public int cell(int board, int x, int y) {
        if (!plan.has(board) || !grid.hasCell(x, y)) {
            return GAP;
        }
        works.ask(board, tileOf(x, y));
        return works.values[board][placeOf(x, y)];
    }

    public int fresh(int board, int tile) {
        if (!plan.has(board) || !grid.hasTile(tile)) {
            return NONE;
        }
        return works.isFresh(board, tile) ? 1 : 0;
    }

    public int from(int board, int tile, int sheet) {
        if (!plan.has(board) || !grid.hasTile(tile) || !isSheet(sheet)) {
            return NONE;
        }
        return works.sources(board, tile, sheet);
    }

    public int made() {
        return works.makings;
    }

    public int image(int k) {
        if (!isImage(k)) {
            return refuse(BAD_NUMBER);
        }
        sheets.keep(k);
        return accept(0);
    }

    public int back(int k) {
        if (!isImage(k)) {
            return refuse(BAD_NUMBER);
        }
        if (!sheets.isKept[k]) {
            return refuse(NO_TEXT);
        }
        int tellings = 0;
        for (int sheet = 0; sheet < SHEETS; sheet++) {
            tellings += bringBack(k, sheet);
        }
        return accept(tellings);
    }

    public int count(int what) {
        switch (what) {
            case 0: return grid.width;
            case 1: return grid.height;
            case 2: return plan.length;
            case 3: return Integer.bitCount(grid.tiles);
            case 4: return tape.length;
            case 5: return works.freshInAll();
            default: return NONE;
        }
    }

    public int status() {
        return refusal;
    }

    private int refuse(int why) {
        refusal = why;
        return why;
    }

    private int accept(int answer) {
        refusal = 0;
        return answer;
    }

    private void put(int sheet, int place, int value) {
        sheets.cells[sheet][place] = value;
        works.lose(sheet, tileOf(place % ROW - 1, place / ROW - 1));
    }

    private int bringBack(int k, int sheet) {
        int tellings = 0;
        for (int place = FIRST_PLACE; place <= LAST_PLACE; place++) {
            int value = sheets.images[k][sheet * PLACES + place];
            if (value != sheets.cells[sheet][place]) {
                put(sheet, place, value);
                tellings++;
            }
        }
        return tellings;
    }

    private static boolean isSide(int n) {
        return n >= SIDE_LEAST && n <= SIDE_MOST;
    }

    private static boolean isSheet(int n) {
        return n >= 0 && n < SHEETS;
    }

    private static boolean isImage(int n) {
        return n >= 0 && n < IMAGES;
    }

    private static boolean isTellable(int value) {
        return value == GAP || (value >= -TOLD_MOST && value <= TOLD_MOST);
    }

    private static int placeOf(int x, int y) {
        return (y + 1) * ROW + x + 1;
    }

    private static int tileOf(int x, int y) {
        return y / TILE_SIDE * TILES_ACROSS + x / TILE_SIDE;
    }

    private static int orGap(long value) {
        return value < -VALUE_MOST || value > VALUE_MOST ? GAP : (int) value;
    }

    /** How far the boards go, in cells and in tiles. */
    private static final class Grid {
        int width;
        int height;
        /** The tiles that there are, as bits. */
        int tiles;

        Grid() {
            shape(SIDE_FIRST, SIDE_FIRST);
        }

        void shape(int w, int h) {
            width = w;
            height = h;
            tiles = 0;
            for (int y = 0; y < h; y += TILE_SIDE) {
                for (int x = 0; x < w; x += TILE_SIDE) {
                    tiles |= 1 << tileOf(x, y);
                }
            }
        }

        boolean hasCell(int x, int y) {
            return x >= 0 && x < width && y >= 0 && y < height;
        }

        boolean hasTile(int tile) {
            return tile >= 0 && tile < TILES_MOST && (tiles >> tile & 1) != 0;
        }

        int leftOf(int tile) {
            return tile % TILES_ACROSS * TILE_SIDE;
        }

        int rightOf(int tile) {
            return Math.min(width, leftOf(tile) + TILE_SIDE);
        }

        int bottomOf(int tile) {
            return tile / TILES_ACROSS * TILE_SIDE;
        }

        int topOf(int tile) {
            return Math.min(height, bottomOf(tile) + TILE_SIDE);
        }

        /** These tiles and those that touch them, at a corner too. */
        int around(int some) {
            int row = some | (some & ~RIGHT_TILES) << 1 | (some & ~LEFT_TILES) >> 1;
            return (row | row << TILES_ACROSS | row >> TILES_ACROSS) & tiles;
        }
    }

    /** What was told, and the images of it. */
    private static final class Sheets {
        final int[][] cells = new int[SHEETS][PLACES];
        final int[][] images = new int[IMAGES][SHEETS * PLACES];
        final boolean[] isKept = new boolean[IMAGES];

        Sheets() {
            empty();
        }

        void empty() {
            for (int sheet = 0; sheet < SHEETS; sheet++) {
                Arrays.fill(cells[sheet], GAP);
            }
            for (int k = 0; k < IMAGES; k++) {
                isKept[k] = false;
            }
        }

        void keep(int k) {
            for (int sheet = 0; sheet < SHEETS; sheet++) {
                System.arraycopy(cells[sheet], 0, images[k], sheet * PLACES, PLACES);
            }
            isKept[k] = true;
        }
    }

    /** The bytes that were fed and are not boards yet. */
    private static final class Tape {
        private final char[] bytes = new char[TAPE_MOST];
        int length;

        boolean hasRoom(int more) {
            return length + more <= TAPE_MOST;
        }

        void append(int fourBytes) {
            for (int shift = 24; shift >= 0; shift -= 8) {
                if (length < TAPE_MOST) {
                    bytes[length] = (char) (fourBytes >>> shift & 255);
                    length++;
                }
            }
        }

        char byteAt(int place) {
            return place >= 0 && place < length ? bytes[place] : (char) 0;
        }

        boolean isLetter(int place) {
            return byteAt(place) >= 'a' && byteAt(place) <= 'z';
        }

        boolean isDigit(int place) {
            return byteAt(place) >= '0' && byteAt(place) <= '9';
        }
    }

    /** A tape cut into tokens. */
    private static final class Tokens {
        private final Tape tape;
        /** One more than the bytes, for the end. */
        private final int[] kinds = new int[TAPE_MOST + 1];
        /** Which letter, word, number or sign it is. */
        private final int[] codes = new int[TAPE_MOST + 1];
        private final int[] places = new int[TAPE_MOST + 1];
        private int length;
        private int next;

        Tokens(Tape tape) {
            this.tape = tape;
        }

        void cut() {
            next = 0;
            length = 0;
            for (int place = 0; place < tape.length; place++) {
                if (isStart(place)) {
                    holdAt(place);
                }
            }
            hold(TOKEN_END, 0, tape.length);
        }

        private boolean isStart(int place) {
            if (tape.isLetter(place)) {
                return !tape.isLetter(place - 1);
            }
            if (tape.isDigit(place)) {
                return !tape.isDigit(place - 1);
            }
            return tape.byteAt(place) != ' ';
        }

        private void holdAt(int start) {
            if (tape.isLetter(start)) {
                holdLetters(start);
            } else if (tape.isDigit(start)) {
                holdDigits(start);
            } else {
                hold(TOKEN_SIGN, tape.byteAt(start), start);
            }
        }

        private void hold(int kind, int code, int place) {
            if (length <= TAPE_MOST) {
                kinds[length] = kind;
                codes[length] = code;
                places[length] = place;
                length++;
            }
        }

        private void holdLetters(int start) {
            int after = start + 1;
            while (after < tape.length && tape.isLetter(after)) {
                after++;
            }
            if (after - start == 1) {
                hold(TOKEN_LETTER, tape.byteAt(start) - 'a', start);
                return;
            }
            for (int word = 0; word < WORDS; word++) {
                if (isSpelled(spelling(word), start, after)) {
                    hold(TOKEN_WORD, word, start);
                    return;
                }
            }
            hold(TOKEN_OTHER, 0, start);
        }

        /** All numbers that are more than any the language takes are held as one more than the greatest. */
        private void holdDigits(int start) {
            int number = 0;
            for (int i = start; i < tape.length && tape.isDigit(i); i++) {
                number = Math.min(number * 10 + tape.byteAt(i) - '0', TOLD_MOST + 1);
            }
            hold(TOKEN_NUMBER, number, start);
        }

        private boolean isSpelled(String word, int start, int after) {
            if (after - start != word.length()) {
                return false;
            }
            for (int i = 0; i < word.length(); i++) {
                if (tape.byteAt(start + i) != word.charAt(i)) {
                    return false;
                }
            }
            return true;
        }

        private static String spelling(int word) {
            switch (word) {
                case SHEET: return "sheet";
                case ADD: return "add";
                case LESS: return "less";
                case TIMES: return "times";
                case LEAST: return "least";
                case MOST: return "most";
                case WHERE: return "where";
                case WAY: return "way";
                case IF: return "if";
                case FILL: return "fill";
                case NEAR: return "near";
                case ZONE: return "zone";
                case FLOW: return "flow";
                case SUM: return "sum";
                case COUNT: return "count";
                default: return "";
            }
        }

        int place() {
            return places[next];
        }

        boolean isEnd() {
            return kinds[next] == TOKEN_END;
        }

        /** The next token's code, if it is of that kind; else NONE. */
        int look(int kind) {
            return kinds[next] == kind ? codes[next] : NONE;
        }

        /** To the token behind; the end has none. */
        void step() {
            if (next < length - 1) {
                next++;
            }
        }

        boolean pass(char sign) {
            boolean isThere = look(TOKEN_SIGN) == sign;
            if (isThere) {
                step();
            }
            return isThere;
        }
    }

    /** How one board is made. The boards it names stand ahead of it. */
    private static final class Recipe {
        final int[] named = new int[NAMES_MOST];
        int names;
        int kind;
        int how;
        int number;

        void begin(int newKind) {
            kind = newKind;
            names = 0;
            how = SUM;
            number = 0;
        }

        void name(int board) {
            if (names < NAMES_MOST) {
                named[names] = board;
                names++;
            }
        }

        /** Whether each tile needs all tiles of the boards named. */
        boolean isWhole() {
            return kind == ZONE || kind == WAY || kind == FLOW;
        }
    }

    /** The boards of one text. */
    private static final class Plan {
        final Recipe[] recipes = new Recipe[BOARDS_MOST];
        private final int[] boardOf = new int[LETTERS];
        int length;

        Plan() {
            for (int board = 0; board < BOARDS_MOST; board++) {
                recipes[board] = new Recipe();
            }
            clear();
        }

        void clear() {
            length = 0;
            Arrays.fill(boardOf, NONE);
        }

        boolean has(int board) {
            return board >= 0 && board < length;
        }

        boolean isFull() {
            return length >= BOARDS_MOST;
        }

        int boardNamed(int letter) {
            return letter >= 0 && letter < LETTERS ? boardOf[letter] : NONE;
        }

        /** The latest recipe becomes a board with that name. */
        void close(int letter) {
            if (letter >= 0 && letter < LETTERS && !isFull()) {
                boardOf[letter] = length;
                length++;
            }
        }
    }

    /** Reads a tape as boards. A method that answers false leaves the token at fault as the next one. */
    private static final class Reader {
        private final Tokens tokens;
        private Plan plan;

        Reader(Tape tape, Plan plan) {
            tokens = new Tokens(tape);
            this.plan = plan;
        }

        /** The fault's place; NONE, if the plan has all boards of the tape. */
        int read(Plan into) {
            plan = into;
            plan.clear();
            tokens.cut();
            // Once more than there may be boards: the one too many is refused at its name.
            for (int board = 0; board <= BOARDS_MOST; board++) {
                if (!readBoard()) {
                    return tokens.place();
                }
                if (tokens.isEnd()) {
                    return NONE;
                }
                if (!tokens.pass(';')) {
                    return tokens.place();
                }
            }
            return tokens.place();
        }

        private boolean readBoard() {
            int letter = tokens.look(TOKEN_LETTER);
            if (letter == NONE || plan.boardNamed(letter) != NONE || plan.isFull()) {
                return false;
            }
            tokens.step();
            if (!tokens.pass('=') || !readMaking(plan.recipes[plan.length])) {
                return false;
            }
            // Only now: in its own making the name has no board yet.
            plan.close(letter);
            return true;
        }

        private boolean readMaking(Recipe recipe) {
            int kind = tokens.look(TOKEN_WORD);
            if (kind < SHEET || kind > FLOW) {
                return false;
            }
            tokens.step();
            recipe.begin(kind);
            switch (kind) {
                case SHEET: return readNumber(recipe, 0, SHEETS - 1);
                case IF: return readNames(recipe, 3);
                case FILL: return readNames(recipe, 1) && readSigned(recipe);
                case NEAR: return readNumber(recipe, 1, 3) && readHow(recipe) && readNames(recipe, 1);
                case ZONE: return readHow(recipe) && readNames(recipe, 2);
                case FLOW: return readNames(recipe, 1);
                default: return readNames(recipe, 2);
            }
        }

        private boolean readHow(Recipe recipe) {
            int how = tokens.look(TOKEN_WORD);
            if (how != SUM && how != MOST && how != LEAST && how != COUNT) {
                return false;
            }
            recipe.how = how;
            tokens.step();
            return true;
        }

        private boolean readNames(Recipe recipe, int names) {
            for (int i = 0; i < names; i++) {
                int board = plan.boardNamed(tokens.look(TOKEN_LETTER));
                if (board == NONE) {
                    return false;
                }
                recipe.name(board);
                tokens.step();
            }
            return true;
        }

        private boolean readNumber(Recipe recipe, int least, int most) {
            int number = tokens.look(TOKEN_NUMBER);
            if (number < least || number > most) {
                return false;
            }
            recipe.number = number;
            tokens.step();
            return true;
        }

        private boolean readSigned(Recipe recipe) {
            boolean isBelow = tokens.pass('-');
            if (!readNumber(recipe, 0, TOLD_MOST)) {
                return false;
            }
            if (isBelow) {
                recipe.number = -recipe.number;
            }
            return true;
        }
    }

    /** Which tiles are fresh, and the making of those that are asked and are not. */
    private static final class Works {
        private final Grid grid;
        private final Maker maker;
        private final int[] freshTiles = new int[BOARDS_MOST];
        /** Tiles of each board, as bits, that one walk from board to board has come to. */
        private final int[] reached = new int[BOARDS_MOST];
        final int[][] values = new int[BOARDS_MOST][PLACES];
        private Plan plan;
        int makings;

        Works(Grid grid, Sheets sheets, Plan plan) {
            this.grid = grid;
            this.plan = plan;
            maker = new Maker(grid, sheets, values);
            empty();
        }

        void follow(Plan newPlan) {
            plan = newPlan;
            Arrays.fill(freshTiles, 0);
        }

        /** The values go too: beyond a new width and height all are gaps. */
        void empty() {
            Arrays.fill(freshTiles, 0);
            for (int board = 0; board < BOARDS_MOST; board++) {
                Arrays.fill(values[board], GAP);
            }
        }

        boolean isFresh(int board, int tile) {
            return (freshTiles[board] >> tile & 1) != 0;
        }

        int freshInAll() {
            int tiles = 0;
            for (int board = 0; board < BOARDS_MOST; board++) {
                tiles += Integer.bitCount(freshTiles[board]);
            }
            return tiles;
        }

        void ask(int board, int tile) {
            if (isFresh(board, tile)) {
                return;
            }
            reachNeeded(board, tile);
            // A board names only those ahead of it: in their order, what a tile needs is made before it.
            for (int b = 0; b <= board; b++) {
                makeTiles(b, reached[b] & ~freshTiles[b]);
            }
        }

        int sources(int board, int tile, int sheet) {
            reachNeeded(board, tile);
            int tiles = 0;
            for (int b = 0; b <= board; b++) {
                Recipe recipe = plan.recipes[b];
                if (recipe.kind == SHEET && recipe.number == sheet) {
                    tiles |= reached[b];
                }
            }
            return tiles;
        }

        /** What comes from that tile of a sheet is fresh no more. */
        void lose(int sheet, int tile) {
            for (int b = 0; b < plan.length; b++) {
                reached[b] = tilesFrom(plan.recipes[b], sheet, 1 << tile);
                freshTiles[b] &= ~reached[b];
            }
        }

        private int tilesFrom(Recipe recipe, int sheet, int tiles) {
            if (recipe.kind == SHEET) {
                return recipe.number == sheet ? tiles : 0;
            }
            int some = 0;
            for (int i = 0; i < recipe.names; i++) {
                some |= reached[recipe.named[i]];
            }
            return across(recipe, some);
        }

        /** Reaches the tile and all that it needs over any steps. A fresh tile needs fresh ones alone. */
        private void reachNeeded(int board, int tile) {
            Arrays.fill(reached, 0);
            reached[board] = 1 << tile;
            for (int b = board; b >= 0; b--) {
                Recipe recipe = plan.recipes[b];
                int needed = across(recipe, reached[b]);
                for (int i = 0; i < recipe.names; i++) {
                    reached[recipe.named[i]] |= needed;
                }
            }
        }

        /**
         * The tiles of a board named that these tiles need; as well the tiles that need these of a board named,
         * for each kind of need goes both ways alike.
         */
        private int across(Recipe recipe, int some) {
            if (recipe.isWhole()) {
                return some == 0 ? 0 : grid.tiles;
            }
            return recipe.kind == NEAR ? grid.around(some) : some;
        }

        private void makeTiles(int board, int tiles) {
            if (tiles == 0) {
                return;
            }
            Recipe recipe = plan.recipes[board];
            if (recipe.isWhole()) {
                // Such a board loses all its tiles at once: while one is fresh, the values of all stand.
                if (freshTiles[board] == 0) {
                    maker.makeWhole(recipe, values[board]);
                }
            } else {
                for (int tile = 0; tile < TILES_MOST; tile++) {
                    if ((tiles >> tile & 1) != 0) {
                        maker.makeTile(recipe, tile, values[board]);
                    }
                }
            }
            freshTiles[board] |= tiles;
            makings += Integer.bitCount(tiles);
        }
    }

    /** The sum, the greatest, the least and the number of some values. */
    private static final class Tally {
        private long sum;
        private int greatest;
        private int smallest;
        private int number;

        void clear() {
            sum = 0;
            greatest = -VALUE_MOST;
            smallest = VALUE_MOST;
            number = 0;
        }

        void take(int value) {
            if (value == GAP) {
                return;
            }
            sum += value;
            if (value > greatest) {
                greatest = value;
            }
            if (value < smallest) {
                smallest = value;
            }
            number++;
        }

        int answer(int how) {
            if (how == COUNT) {
                return number;
            }
            if (number == 0) {
                return GAP;
            }
            switch (how) {
                case MOST: return greatest;
                case LEAST: return smallest;
                default: return orGap(sum);
            }
        }
    }

    /** Works out the values of boards from the sheets and from the boards named. */
    private static final class Maker {
        private final Grid grid;
        private final Sheets sheets;
        private final int[][] values;
        private final Tally tally = new Tally();
        /** The steps to the sides, in the order in which flow prefers them: right, up, left, down. */
        private final int[] sides = {1, ROW, -1, -ROW};
        private final int[] downhill = new int[PLACES];
        private final boolean[] isZoned = new boolean[PLACES];

        Maker(Grid grid, Sheets sheets, int[][] values) {
            this.grid = grid;
            this.sheets = sheets;
            this.values = values;
        }

        void makeTile(Recipe recipe, int tile, int[] out) {
            int right = grid.rightOf(tile);
            int top = grid.topOf(tile);
            for (int y = grid.bottomOf(tile); y < top; y++) {
                for (int x = grid.leftOf(tile); x < right; x++) {
                    out[placeOf(x, y)] = recipe.kind == NEAR ? near(recipe, x, y) : single(recipe, placeOf(x, y));
                }
            }
        }

        void makeWhole(Recipe recipe, int[] out) {
            int[] first = values[recipe.named[0]];
            int[] second = values[recipe.named[1]];
            switch (recipe.kind) {
                case ZONE: zones(recipe.how, first, second, out); break;
                case WAY: ways(first, second, out); break;
                default: flows(first, out); break;
            }
        }

        /** A value that comes from the same cell alone. */
        private int single(Recipe recipe, int place) {
            if (recipe.kind == SHEET) {
                return sheets.cells[recipe.number][place];
            }
            int a = values[recipe.named[0]][place];
            if (recipe.kind == FILL) {
                return a == GAP ? recipe.number : a;
            }
            int b = values[recipe.named[1]][place];
            if (recipe.kind == IF) {
                int c = values[recipe.named[2]][place];
                return a == GAP ? GAP : a > 0 ? b : c;
            }
            return a == GAP || b == GAP ? GAP : ofBoth(recipe.kind, a, b);
        }

        private static int ofBoth(int kind, int a, int b) {
            switch (kind) {
                case WHERE: return b > 0 ? a : GAP;
                case ADD: return orGap((long) a + b);
                case LESS: return orGap((long) a - b);
                case TIMES: return orGap((long) a * b);
                case LEAST: return Math.min(a, b);
                default: return Math.max(a, b);
            }
        }

        private int near(Recipe recipe, int x, int y) {
            int[] a = values[recipe.named[0]];
            int reach = recipe.number;
            int right = Math.min(grid.width - 1, x + reach);
            int top = Math.min(grid.height - 1, y + reach);
            tally.clear();
            for (int v = Math.max(0, y - reach); v <= top; v++) {
                for (int u = Math.max(0, x - reach); u <= right; u++) {
                    tally.take(a[placeOf(u, v)]);
                }
            }
            return tally.answer(recipe.how);
        }

        private void zones(int how, int[] a, int[] b, int[] out) {
            for (int place = FIRST_PLACE; place <= LAST_PLACE; place++) {
                isZoned[place] = b[place] == GAP;
                out[place] = GAP;
            }
            for (int place = FIRST_PLACE; place <= LAST_PLACE; place++) {
                if (!isZoned[place]) {
                    tallyZone(a, b, place);
                    fillZone(tally.answer(how), b, place, out);
                }
            }
        }

        /** The zone's first cell is at that place. */
        private void tallyZone(int[] a, int[] b, int first) {
            tally.clear();
            for (int place = first; place <= LAST_PLACE; place++) {
                if (b[place] == b[first]) {
                    tally.take(a[place]);
                }
            }
        }

        private void fillZone(int answer, int[] b, int first, int[] out) {
            for (int place = first; place <= LAST_PLACE; place++) {
                if (b[place] == b[first]) {
                    out[place] = answer;
                    isZoned[place] = true;
                }
            }
        }

        private void ways(int[] a, int[] b, int[] out) {
            for (int place = FIRST_PLACE; place <= LAST_PLACE; place++) {
                out[place] = b[place] != GAP && a[place] > 0 ? 0 : GAP;
            }
            // A least way comes into no cell twice, so the rounds end ahead of this bound.
            boolean changed = true;
            for (int round = 0; changed && round < PLACES; round++) {
                changed = false;
                for (int place = FIRST_PLACE; place <= LAST_PLACE; place++) {
                    changed = shorten(b, out, place) || changed;
                }
                for (int place = LAST_PLACE; place >= FIRST_PLACE; place--) {
                    changed = shorten(b, out, place) || changed;
                }
            }
        }

        /**
         * Whether the way to that place could be made less over one of its sides. A way that is beyond all values
         * is left out: one that goes on from it would be beyond them too.
         */
        private boolean shorten(int[] b, int[] out, int place) {
            if (b[place] == GAP || out[place] == 0) {
                return false;
            }
            int before = out[place] == GAP ? VALUE_MOST + 1 : out[place];
            int least = before;
            int step = Math.max(0, b[place]);
            for (int side = 0; side < sides.length; side++) {
                int other = out[place + sides[side]];
                if (other != GAP && other + step < least) {
                    least = other + step;
                }
            }
            if (least < before) {
                out[place] = least;
            }
            return least < before;
        }

        private void flows(int[] a, int[] out) {
            for (int place = FIRST_PLACE; place <= LAST_PLACE; place++) {
                out[place] = a[place] == GAP ? GAP : 0;
                downhill[place] = a[place] == GAP ? NONE : lowestSide(a, place);
            }
            for (int place = FIRST_PLACE; place <= LAST_PLACE; place++) {
                if (a[place] != GAP) {
                    runDown(out, place);
                }
            }
        }

        private int lowestSide(int[] a, int place) {
            int lowest = a[place];
            int found = NONE;
            for (int side = 0; side < sides.length; side++) {
                int other = place + sides[side];
                if (a[other] != GAP && a[other] < lowest) {
                    lowest = a[other];
                    found = other;
                }
            }
            return found;
        }

        /** The values go down at each step, so it comes to no cell twice. */
        private void runDown(int[] out, int spring) {
            int place = spring;
            for (int step = 0; place != NONE && step < PLACES; step++) {
                out[place]++;
                place = downhill[place];
            }
        }
    }
}
