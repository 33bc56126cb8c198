import java.util.Arrays;

/** Half tiles that rust, and match by grade as they are laid: one game with its text, snapshots and undo. */
public final class RustTiles {
    public static final int NONE = -1;

    private static final int GRADES = 7;
    private static final int TILES = 28;
    private static final int LEAST_PLAYERS = 2;
    private static final int MOST_PLAYERS = 4;
    private static final int DEALT = 5;
    private static final int ROWS = 3;
    private static final int LOTS = 10000;
    private static final int FIRST_SETTING = 3;
    private static final int ALL_GRADES = 168;
    private static final int MOST_IN_TRAIN = 10;
    private static final int SLOTS = 2;
    private static final int MOST_SAVED = 6;
    private static final int MOST_CHARACTERS = 60;

    // The properties of a tile, numbered as tileOf() tells them.
    private static final int FIRST = 0;
    private static final int SECOND = 1;
    private static final int WHERE = 2;
    private static final int OWNER = 3;
    private static final int AGE = 4;
    private static final int ROW = 5;
    private static final int RUSTED = 6;
    private static final int TILE_PROPERTIES = 7;

    private static final int IN_STOCK = 0;
    private static final int IN_HAND = 1;
    private static final int IS_LAID = 2;

    // The properties of a row, numbered as rowOf() tells them; the end 1 is open behind the end 0.
    private static final int LENGTH = 0;
    private static final int OPEN = 1;
    private static final int LAST = 3;
    private static final int ROW_PROPERTIES = 4;

    // What is counted for each player.
    private static final int HELD = 0;
    private static final int LOST = 1;
    private static final int LAID = 2;
    private static final int DRAWN = 3;
    private static final int TALLIES = 4;

    private static final int PLAYER_PROPERTIES = 7;
    private static final int NUMBERS = 12;
    private static final int WAYS_TO_TELL = 2;

    // What a turn answers.
    private static final int FITS = 0;
    private static final int IS_OVER = 1;
    private static final int NO_SUCH_PLACE = 2;
    private static final int NO_MATCH = 3;
    private static final int STOCK_EMPTY = 4;
    private static final int STOCK_LEFT = 5;
    private static final int MADE = 10;
    private static final int MADE_AND_OVER = 11;
    private static final int DRAW_REFUSED = 100;

    private final Game game;
    private final Trains trains;
    private final Text text;
    private final Past past;
    private final Game[] slots;

    public RustTiles() {
        game = new Game();
        trains = new Trains();
        text = new Text();
        past = new Past();
        slots = new Game[SLOTS];
        game.start(LEAST_PLAYERS, 1);
    }

    // ---- the game

    public int begin(int players, int x) throws IllegalArgumentException {
        if (players < LEAST_PLAYERS || players > MOST_PLAYERS || x < 0 || x >= LOTS) {
            throw new IllegalArgumentException("no such players or lot");
        }
        past.remember(game);
        game.start(players, x);
        return game.stockSize();
    }

    public int lay(int place, int row, int end) throws IndexOutOfBoundsException, IllegalArgumentException {
        requireRow(row);
        requireEnd(end);
        past.remember(game);
        return game.turnToLay(place, row, end);
    }

    public int draw() {
        past.remember(game);
        return game.turnToDraw();
    }

    public int pass() {
        past.remember(game);
        return game.turnToPass();
    }

    public int oil(int place) throws IndexOutOfBoundsException {
        if (!game.isOver() && !game.holdsPlace(game.onMove, place)) {
            throw new IndexOutOfBoundsException("no such place in the hand");
        }
        past.remember(game);
        return game.oilTile(place);
    }

    public int set(int value) throws IllegalArgumentException {
        if (value < 1 || value > 9) {
            throw new IllegalArgumentException("no such setting");
        }
        past.remember(game);
        int previous = game.interval;
        game.interval = value;
        return previous;
    }

    // ---- texts, snapshots

    public int append(int code) throws IllegalArgumentException, IllegalStateException {
        if (code < 33 || code > 126) {
            throw new IllegalArgumentException("no such character");
        }
        if (text.length >= MOST_CHARACTERS) {
            throw new IllegalStateException("the buffer is full");
        }
        text.add(code);
        return text.length;
    }

    public int clearBuffer() {
        int length = text.length;
        text.length = 0;
        return length;
    }

    public int firstError() {
        return text.errorPlace();
    }

    public int run() throws IllegalArgumentException {
        if (!text.tellsTurns()) {
            throw new IllegalArgumentException("the buffer does not tell turns");
        }
        past.remember(game);
        int made = text.makeTurns(game);
        text.length = 0;
        return made;
    }

    public int keep(int slot) throws IllegalArgumentException {
        if (slot < 0 || slot >= slots.length) {
            throw new IllegalArgumentException("no such slot");
        }
        Game snapshot = slots[slot];
        if (snapshot == null) {
            snapshot = new Game();
            slots[slot] = snapshot;
        }
        snapshot.become(game);
        return game.stockSize();
    }

    public int goBack(int slot) throws IllegalArgumentException, IllegalStateException {
        if (slot < 0 || slot >= slots.length) {
            throw new IllegalArgumentException("no such slot");
        }
        Game snapshot = slots[slot];
        if (snapshot == null) {
            throw new IllegalStateException("no snapshot in the slot");
        }
        past.remember(game);
        game.become(snapshot);
        return game.stockSize();
    }

    public int undo() throws IllegalStateException {
        if (past.size == 0) {
            throw new IllegalStateException("no saved state");
        }
        past.restore(game);
        return past.size;
    }

    // ---- looks; nothing is changed

    public int tileOf(int tile, int what) throws IndexOutOfBoundsException, IllegalArgumentException {
        if (tile < 0 || tile >= TILES) {
            throw new IndexOutOfBoundsException("no such tile");
        }
        requireWhat(what, TILE_PROPERTIES);
        return game.tiles.at(tile, what);
    }

    public int hand(int player, int place) throws IndexOutOfBoundsException, IllegalArgumentException {
        requirePlayer(player);
        requirePlace(place);
        return game.holdsPlace(player, place) ? game.hands.at(player, place) : NONE;
    }

    public int stock(int place) throws IllegalArgumentException {
        requirePlace(place);
        return place < game.stockSize() ? game.stockTile(place) : NONE;
    }

    public int playerOf(int player, int what) throws IndexOutOfBoundsException, IllegalArgumentException {
        requirePlayer(player);
        requireWhat(what, PLAYER_PROPERTIES);
        return game.playerProperty(player, what);
    }

    public int rowOf(int row, int what) throws IndexOutOfBoundsException, IllegalArgumentException {
        requireRow(row);
        requireWhat(what, ROW_PROPERTIES);
        return game.rows.at(row, what);
    }

    public int count(int what) throws IllegalArgumentException {
        requireWhat(what, NUMBERS);
        return game.numberOf(what, past.size);
    }

    public int setting() {
        return game.interval;
    }

    // ---- what would be; nothing is changed

    public int whyNot(int place, int row, int end) throws IndexOutOfBoundsException, IllegalArgumentException {
        requireRow(row);
        requireEnd(end);
        return game.reasonAgainst(place, row, end);
    }

    public int longest(int player, int grade) throws IndexOutOfBoundsException, IllegalArgumentException {
        requirePlayer(player);
        requireGrade(grade);
        trains.take(game, player);
        trains.tryFrom(grade);
        return trains.mostTiles();
    }

    public int whole(int player, int grade, int what) throws IndexOutOfBoundsException, IllegalArgumentException {
        requirePlayer(player);
        requireGrade(grade);
        requireWhat(what, WAYS_TO_TELL);
        trains.take(game, player);
        if (what == 1) {
            return trains.wholeByCounting(grade);
        }
        trains.tryFrom(grade);
        return trains.wholeByTrying();
    }

    public int advice() {
        return game.bestPlace();
    }

    public int commonest() {
        return game.commonestGrade();
    }

    public double rustShare() {
        return game.shareOfRust();
    }

    public long digest() {
        long hash = 3463;
        for (int what = 0; what < NUMBERS; what++) {
            hash = 31 * hash + game.numberOf(what, past.size);
        }
        hash = 31 * hash + game.interval;
        hash = game.tiles.mixInto(hash);
        for (int player = 0; player < game.playerCount; player++) {
            hash = mixPlayer(hash, player);
        }
        hash = game.rows.mixInto(hash);
        for (int place = 0; place < game.stockSize(); place++) {
            hash = 31 * hash + game.stockTile(place);
        }
        hash = 31 * hash + game.bestPlace();
        hash = 31 * hash + game.commonestGrade();
        hash = 31 * hash + bitsOf(game.shareOfRust());
        for (int slot = 0; slot < slots.length; slot++) {
            hash = 31 * hash + (slots[slot] == null ? 0 : 1);
        }
        return text.mixInto(hash);
    }

    // ---- what calls require of their arguments

    private static void requireRow(int row) throws IndexOutOfBoundsException {
        if (row < 0 || row >= ROWS) {
            throw new IndexOutOfBoundsException("no such row");
        }
    }

    private static void requireEnd(int end) throws IllegalArgumentException {
        if (end < 0 || end > 1) {
            throw new IllegalArgumentException("no such end");
        }
    }

    private void requirePlayer(int player) throws IndexOutOfBoundsException {
        if (!game.hasPlayer(player)) {
            throw new IndexOutOfBoundsException("no such player in this game");
        }
    }

    private static void requirePlace(int place) throws IllegalArgumentException {
        if (place < 0) {
            throw new IllegalArgumentException("a place below 0");
        }
    }

    private static void requireWhat(int what, int choices) throws IllegalArgumentException {
        if (what < 0 || what >= choices) {
            throw new IllegalArgumentException("nothing of this number to tell");
        }
    }

    private static void requireGrade(int grade) throws IllegalArgumentException {
        if (grade < 0 || grade >= GRADES) {
            throw new IllegalArgumentException("no such grade");
        }
    }

    // ---- helpers of the digest

    private long mixPlayer(long start, int player) {
        long hash = start;
        for (int what = 0; what < PLAYER_PROPERTIES; what++) {
            hash = 31 * hash + game.playerProperty(player, what);
        }
        for (int place = 0; place < game.heldBy(player); place++) {
            hash = 31 * hash + game.hands.at(player, place);
        }
        trains.take(game, player);
        for (int grade = 0; grade < GRADES; grade++) {
            trains.tryFrom(grade);
            hash = 31 * hash + trains.mostTiles();
            hash = 31 * hash + trains.wholeByTrying();
            hash = 31 * hash + trains.wholeByCounting(grade);
        }
        return hash;
    }

    /**
     * The bits of a double from 0 to 1 that is no subnormal one, as Double.doubleToLongBits tells them.
     * They are counted out here because LANGUAGE.md leaves that function out.
     */
    private static long bitsOf(double share) {
        if (!(share > 0)) {
            return 0;
        }
        double fraction = share;
        long exponent = 1023;
        for (int i = 0; i < 1022 && fraction < 1; i++) {
            fraction = fraction * 2;
            exponent--;
        }
        return (exponent << 52) + (long) ((fraction - 1) * (1L << 52));
    }

    /** Numbers in rows and columns; nothing is read or written outside of them. */
    private static final class Table {
        private final int columns;
        private final int[] cells;

        Table(int rows, int columns) {
            this.columns = columns;
            cells = new int[Math.max(rows * columns, 0)];
        }

        int at(int row, int column) {
            int index = row * columns + column;
            return index >= 0 && index < cells.length ? cells[index] : NONE;
        }

        void put(int row, int column, int value) {
            int index = row * columns + column;
            if (index >= 0 && index < cells.length) {
                cells[index] = value;
            }
        }

        void increase(int row, int column, int by) {
            int index = row * columns + column;
            if (index >= 0 && index < cells.length) {
                cells[index] += by;
            }
        }

        void clear() {
            Arrays.fill(cells, 0);
        }

        void become(Table other) {
            if (other != null) {
                System.arraycopy(other.cells, 0, cells, 0, Math.min(other.cells.length, cells.length));
            }
        }

        long mixInto(long start) {
            long hash = start;
            for (int i = 0; i < cells.length; i++) {
                hash = 31 * hash + cells[i];
            }
            return hash;
        }
    }

    /** All that a snapshot and a saved state hold. */
    private static final class Game {
        private final Table tiles = new Table(TILES, TILE_PROPERTIES);
        private final Table hands = new Table(MOST_PLAYERS, TILES);
        private final Table tallies = new Table(MOST_PLAYERS, TALLIES);
        private final Table rows = new Table(ROWS, ROW_PROPERTIES);
        private final Table order = new Table(1, TILES);
        private int playerCount;
        private int onMove;
        private int taken;
        private int turnsMade;
        private int passesInRow;
        private int refusals;
        private int lot;
        private int interval = FIRST_SETTING;

        void become(Game other) {
            if (other == null) {
                return;
            }
            tiles.become(other.tiles);
            hands.become(other.hands);
            tallies.become(other.tallies);
            rows.become(other.rows);
            order.become(other.order);
            playerCount = other.playerCount;
            onMove = other.onMove;
            taken = other.taken;
            turnsMade = other.turnsMade;
            passesInRow = other.passesInRow;
            refusals = other.refusals;
            lot = other.lot;
            interval = other.interval;
        }

        // -- beginning

        void start(int players, int x) {
            playerCount = players;
            onMove = 0;
            taken = 0;
            turnsMade = 0;
            passesInRow = 0;
            hands.clear();
            tallies.clear();
            makeTiles();
            makeRows();
            orderStock(x);
            deal();
        }

        private void makeTiles() {
            tiles.clear();
            int tile = 0;
            for (int first = 0; first < GRADES; first++) {
                for (int second = first; second < GRADES; second++) {
                    tiles.put(tile, FIRST, first);
                    tiles.put(tile, SECOND, second);
                    tiles.put(tile, WHERE, IN_STOCK);
                    tiles.put(tile, OWNER, NONE);
                    tiles.put(tile, ROW, NONE);
                    tile++;
                }
            }
        }

        private void makeRows() {
            for (int row = 0; row < ROWS; row++) {
                rows.put(row, LENGTH, 0);
                rows.put(row, OPEN, NONE);
                rows.put(row, OPEN + 1, NONE);
                rows.put(row, LAST, NONE);
            }
        }

        private void orderStock(int x) {
            lot = x;
            for (int tile = 0; tile < TILES; tile++) {
                lot = (lot * 421 + 1663) % LOTS;
                insertInOrder(lot * TILES + tile, tile);
            }
            for (int place = 0; place < TILES; place++) {
                order.put(0, place, order.at(0, place) % TILES);
            }
        }

        // The lot and the tile are one number here, so that of several with the same lot the lowest tile comes first.
        private void insertInOrder(int lotAndTile, int size) {
            int place = size;
            while (place > 0 && order.at(0, place - 1) > lotAndTile) {
                order.put(0, place, order.at(0, place - 1));
                place--;
            }
            order.put(0, place, lotAndTile);
        }

        private void deal() {
            for (int player = 0; player < playerCount; player++) {
                for (int i = 0; i < DEALT; i++) {
                    takeFromStock(player);
                }
            }
        }

        private int takeFromStock(int player) {
            int tile = order.at(0, taken);
            taken++;
            tiles.put(tile, WHERE, IN_HAND);
            tiles.put(tile, OWNER, player);
            hands.put(player, heldBy(player), tile);
            tallies.increase(player, HELD, 1);
            return tile;
        }

        // -- turns

        int turnToLay(int place, int row, int end) {
            int reason = reasonAgainst(place, row, end);
            if (reason != FITS) {
                refusals++;
                return reason;
            }
            passesInRow = 0;
            int tile = takeFromHand(onMove, place);
            tiles.put(tile, WHERE, IS_LAID);
            tiles.put(tile, ROW, row);
            tallies.increase(onMove, LAID, 1);
            putAtEnd(tile, row, end);
            return endTurn();
        }

        int turnToDraw() {
            if (isOver() || stockSize() == 0) {
                refusals++;
                return DRAW_REFUSED + (isOver() ? IS_OVER : STOCK_EMPTY);
            }
            passesInRow = 0;
            int tile = takeFromStock(onMove);
            tallies.increase(onMove, DRAWN, 1);
            endTurn();
            return tile;
        }

        int turnToPass() {
            if (isOver() || stockSize() > 0) {
                refusals++;
                return isOver() ? IS_OVER : STOCK_LEFT;
            }
            passesInRow++;
            return endTurn();
        }

        int oilTile(int place) {
            if (isOver()) {
                return NONE;
            }
            int tile = hands.at(onMove, place);
            int age = tiles.at(tile, AGE);
            tiles.put(tile, AGE, 0);
            return age;
        }

        int reasonAgainst(int place, int row, int end) {
            if (isOver()) {
                return IS_OVER;
            }
            if (!holdsPlace(onMove, place)) {
                return NO_SUCH_PLACE;
            }
            return fits(hands.at(onMove, place), row, end) ? FITS : NO_MATCH;
        }

        private boolean fits(int tile, int row, int end) {
            if (rows.at(row, LENGTH) == 0) {
                return true;
            }
            int open = rows.at(row, OPEN + end);
            return tiles.at(tile, FIRST) == open || tiles.at(tile, SECOND) == open;
        }

        private int takeFromHand(int player, int place) {
            int tile = hands.at(player, place);
            int last = heldBy(player) - 1;
            for (int i = place; i < last; i++) {
                hands.put(player, i, hands.at(player, i + 1));
            }
            tallies.increase(player, HELD, -1);
            return tile;
        }

        private void putAtEnd(int tile, int row, int end) {
            int first = tiles.at(tile, FIRST);
            int second = tiles.at(tile, SECOND);
            if (rows.at(row, LENGTH) == 0) {
                rows.put(row, OPEN, first);
                rows.put(row, OPEN + 1, second);
            } else {
                rows.put(row, OPEN + end, first == rows.at(row, OPEN + end) ? second : first);
            }
            rows.increase(row, LENGTH, 1);
            rows.put(row, LAST, tile);
        }

        private int endTurn() {
            turnsMade++;
            boolean over = heldBy(onMove) == 0 || passesInRow >= playerCount;
            ageHand(onMove);
            if (over) {
                onMove = NONE;
                return MADE_AND_OVER;
            }
            onMove = onMove + 1 < playerCount ? onMove + 1 : 0;
            return MADE;
        }

        private void ageHand(int player) {
            int held = heldBy(player);
            for (int place = 0; place < held; place++) {
                int tile = hands.at(player, place);
                tiles.increase(tile, AGE, 1);
                if (interval > 0 && tiles.at(tile, AGE) % interval == 0) {
                    rust(tile, player);
                }
            }
        }

        private void rust(int tile, int player) {
            int half = tiles.at(tile, FIRST) >= tiles.at(tile, SECOND) ? FIRST : SECOND;
            if (tiles.at(tile, half) > 0) {
                tiles.increase(tile, half, -1);
                tiles.increase(tile, RUSTED, 1);
                tallies.increase(player, LOST, 1);
            }
        }

        // -- looks

        boolean isOver() {
            return onMove == NONE;
        }

        boolean hasPlayer(int player) {
            return player >= 0 && player < playerCount;
        }

        int heldBy(int player) {
            return tallies.at(player, HELD);
        }

        boolean holdsPlace(int player, int place) {
            return place >= 0 && place < heldBy(player);
        }

        int stockSize() {
            return TILES - taken;
        }

        int stockTile(int place) {
            return order.at(0, taken + place);
        }

        int numberOf(int what, int savedStates) {
            switch (what) {
                case 0: return playerCount;
                case 1: return onMove;
                case 2: return stockSize();
                case 3: return tallied(HELD);
                case 4: return tallied(LAID);
                case 5: return turnsMade;
                case 6: return passesInRow;
                case 7: return tallied(LOST);
                case 8: return winner();
                case 9: return refusals;
                case 10: return lot;
                case 11: return savedStates;
                default: return NONE;
            }
        }

        int playerProperty(int player, int what) {
            switch (what) {
                case 0: return heldBy(player);
                case 1: return gradesHeld(player);
                case 2: return tallies.at(player, LOST);
                case 3: return sumOf(player);
                case 4: return tallies.at(player, LAID);
                case 5: return tallies.at(player, DRAWN);
                case 6: return endsOpenTo(player);
                default: return NONE;
            }
        }

        private int tallied(int what) {
            int sum = 0;
            for (int player = 0; player < playerCount; player++) {
                sum += tallies.at(player, what);
            }
            return sum;
        }

        private int gradesOf(int tile) {
            return tiles.at(tile, FIRST) + tiles.at(tile, SECOND);
        }

        private int gradesHeld(int player) {
            int held = heldBy(player);
            int sum = 0;
            for (int place = 0; place < held; place++) {
                sum += gradesOf(hands.at(player, place));
            }
            return sum;
        }

        private int sumOf(int player) {
            return gradesHeld(player) + tallies.at(player, LOST);
        }

        private int winner() {
            if (!isOver()) {
                return NONE;
            }
            int best = 0;
            for (int player = 1; player < playerCount; player++) {
                if (sumOf(player) < sumOf(best)) {
                    best = player;
                }
            }
            return best;
        }

        private int endsOpenTo(int player) {
            int ends = 0;
            for (int row = 0; row < ROWS; row++) {
                int told = rows.at(row, LENGTH) == 0 ? 1 : 2;
                for (int end = 0; end < told; end++) {
                    if (canLayAt(player, row, end)) {
                        ends++;
                    }
                }
            }
            return ends;
        }

        private boolean canLayAt(int player, int row, int end) {
            int held = heldBy(player);
            for (int place = 0; place < held; place++) {
                if (fits(hands.at(player, place), row, end)) {
                    return true;
                }
            }
            return false;
        }

        private boolean fitsSomewhere(int tile) {
            for (int row = 0; row < ROWS; row++) {
                if (fits(tile, row, 0) || fits(tile, row, 1)) {
                    return true;
                }
            }
            return false;
        }

        int bestPlace() {
            if (isOver()) {
                return NONE;
            }
            int held = heldBy(onMove);
            int best = NONE;
            for (int place = 0; place < held; place++) {
                if (fitsSomewhere(hands.at(onMove, place)) && (best == NONE || isBetter(place, best))) {
                    best = place;
                }
            }
            return best;
        }

        private boolean isBetter(int place, int best) {
            int tile = hands.at(onMove, place);
            int other = hands.at(onMove, best);
            if (gradesOf(tile) != gradesOf(other)) {
                return gradesOf(tile) > gradesOf(other);
            }
            return tiles.at(tile, AGE) > tiles.at(other, AGE);
        }

        int commonestGrade() {
            int best = 0;
            for (int grade = 1; grade < GRADES; grade++) {
                if (halvesWith(grade) >= halvesWith(best)) {
                    best = grade;
                }
            }
            return best;
        }

        private int halvesWith(int grade) {
            int halves = 0;
            for (int tile = 0; tile < TILES; tile++) {
                if (tiles.at(tile, WHERE) != IS_LAID) {
                    halves += tiles.at(tile, FIRST) == grade ? 1 : 0;
                    halves += tiles.at(tile, SECOND) == grade ? 1 : 0;
                }
            }
            return halves;
        }

        double shareOfRust() {
            return (double) tallied(LOST) / ALL_GRADES;
        }
    }

    /** The trains of one hand, as it was when it was taken. */
    private static final class Trains {
        // Both halves of each tile; here and below a grade is a bit, so that several stand in one number.
        private final Table halves = new Table(MOST_IN_TRAIN, 2);
        // For each choice of tiles, a bit a tile, the grades that trains of all of them leave open.
        private final int[] open = new int[1 << MOST_IN_TRAIN];
        private int size;

        void take(Game game, int player) {
            size = 0;
            if (game == null) {
                return;
            }
            size = game.heldBy(player);
            for (int i = 0; i < size && i < MOST_IN_TRAIN; i++) {
                int tile = game.hands.at(player, i);
                halves.put(i, FIRST, 1 << game.tiles.at(tile, FIRST));
                halves.put(i, SECOND, 1 << game.tiles.at(tile, SECOND));
            }
        }

        private boolean isTooLarge() {
            return size > MOST_IN_TRAIN;
        }

        // A choice comes behind all choices of fewer of its tiles, so its grades are whole when it is gone on from.
        void tryFrom(int grade) {
            if (isTooLarge()) {
                return;
            }
            int choices = 1 << size;
            for (int choice = 0; choice < choices && choice < open.length; choice++) {
                open[choice] = choice == 0 ? 1 << grade : 0;
            }
            for (int choice = 0; choice < choices && choice < open.length; choice++) {
                if (open[choice] != 0) {
                    goOnFrom(choice);
                }
            }
        }

        private void goOnFrom(int choice) {
            for (int i = 0; i < size; i++) {
                int longer = choice | (1 << i);
                if (longer != choice && choice >= 0 && choice < open.length && longer >= 0 && longer < open.length) {
                    open[longer] |= openBehind(i, open[choice]);
                }
            }
        }

        private int openBehind(int i, int before) {
            int first = halves.at(i, FIRST);
            int second = halves.at(i, SECOND);
            int behind = 0;
            if ((before & first) != 0) {
                behind |= second;
            }
            if ((before & second) != 0) {
                behind |= first;
            }
            return behind;
        }

        int mostTiles() {
            if (isTooLarge()) {
                return NONE;
            }
            int most = 0;
            int choices = 1 << size;
            for (int choice = 0; choice < choices && choice < open.length; choice++) {
                if (open[choice] != 0) {
                    most = Math.max(most, Integer.bitCount(choice));
                }
            }
            return most;
        }

        int wholeByTrying() {
            if (isTooLarge()) {
                return NONE;
            }
            int all = (1 << size) - 1;
            return all >= 0 && all < open.length && open[all] != 0 ? 1 : 0;
        }

        // A train of all tiles takes each tile once, as a walk over all edges of a graph of the grades does.
        int wholeByCounting(int grade) {
            if (isTooLarge()) {
                return NONE;
            }
            return hangsTogetherWith(grade) && oddGradesAllow(grade) ? 1 : 0;
        }

        private boolean hangsTogetherWith(int grade) {
            int reached = 1 << grade;
            for (int round = 0; round < GRADES; round++) {
                for (int i = 0; i < size; i++) {
                    reached |= openBehind(i, reached);
                }
            }
            for (int i = 0; i < size; i++) {
                if (openBehind(i, reached) == 0) {
                    return false;
                }
            }
            return true;
        }

        private boolean oddGradesAllow(int grade) {
            int odd = 0;
            for (int i = 0; i < size; i++) {
                odd ^= halves.at(i, FIRST) ^ halves.at(i, SECOND);
            }
            return odd == 0 || (Integer.bitCount(odd) == 2 && (odd & (1 << grade)) != 0);
        }
    }

    /** The buffer, read as turns. */
    private static final class Text {
        private static final int WRONG = -1;
        private static final int TURN = 0;
        private static final int PLACE = 1;
        private static final int BEHIND_1 = 2;
        private static final int BEHIND_2 = 3;
        private static final int ROW_LETTER = 4;
        private static final int END_SIGN = 5;
        private static final int BEHIND_TURN = 6;

        private final char[] codes = new char[MOST_CHARACTERS];
        private int length;

        void add(int code) {
            if (length >= 0 && length < codes.length) {
                codes[length] = (char) code;
                length++;
            }
        }

        int errorPlace() {
            int expected = TURN;
            for (int i = 0; i < length && i < codes.length; i++) {
                expected = expectedBehind(expected, codes[i]);
                if (expected == WRONG) {
                    return i;
                }
            }
            return length;
        }

        boolean tellsTurns() {
            int expected = TURN;
            for (int i = 0; i < length && i < codes.length; i++) {
                expected = expectedBehind(expected, codes[i]);
            }
            return expected == BEHIND_TURN;
        }

        private static int expectedBehind(int expected, char code) {
            switch (expected) {
                case TURN: return behindTurnLetter(code);
                case PLACE: return behindFirstDigit(code);
                case BEHIND_1: return code >= '0' && code <= '9' ? ROW_LETTER : behindRowLetter(code);
                case BEHIND_2: return code >= '0' && code <= '7' ? ROW_LETTER : behindRowLetter(code);
                case ROW_LETTER: return behindRowLetter(code);
                case END_SIGN: return code == '<' || code == '>' ? BEHIND_TURN : WRONG;
                case BEHIND_TURN: return code == ';' ? TURN : WRONG;
                default: return WRONG;
            }
        }

        private static int behindTurnLetter(char code) {
            if (code == 'l') {
                return PLACE;
            }
            return code == 'd' || code == 'p' ? BEHIND_TURN : WRONG;
        }

        private static int behindFirstDigit(char code) {
            if (code == '1') {
                return BEHIND_1;
            }
            if (code == '2') {
                return BEHIND_2;
            }
            return code >= '0' && code <= '9' ? ROW_LETTER : WRONG;
        }

        private static int behindRowLetter(char code) {
            return code >= 'a' && code <= 'c' ? END_SIGN : WRONG;
        }

        // Only for a text that tells turns: then each character has one meaning, wherever it stands.
        int makeTurns(Game game) {
            int begun = 0;
            int place = 0;
            int row = 0;
            for (int i = 0; i < length && i < codes.length && game != null; i++) {
                char code = codes[i];
                int refusals = game.refusals;
                if (code == 'l' || code == 'd' || code == 'p') {
                    begun++;
                    place = 0;
                }
                if (code >= '0' && code <= '9') {
                    place = place * 10 + code - '0';
                } else if (code >= 'a' && code <= 'c') {
                    row = code - 'a';
                } else if (code == '<' || code == '>') {
                    game.turnToLay(place, row, code == '<' ? 0 : 1);
                } else if (code == 'd') {
                    game.turnToDraw();
                } else if (code == 'p') {
                    game.turnToPass();
                }
                if (game.refusals > refusals) {
                    return begun - 1;
                }
            }
            return begun;
        }

        long mixInto(long start) {
            long hash = 31 * start + length;
            for (int i = 0; i < length && i < codes.length; i++) {
                hash = 31 * hash + codes[i];
            }
            return hash;
        }
    }

    /** The saved states: a ring whose oldest one gives way. */
    private static final class Past {
        private final Game[] states = new Game[MOST_SAVED];
        private int next;
        private int size;

        void remember(Game game) {
            if (next < 0 || next >= states.length) {
                return;
            }
            Game state = states[next];
            if (state == null) {
                state = new Game();
                states[next] = state;
            }
            state.become(game);
            next = next + 1 < states.length ? next + 1 : 0;
            size = Math.min(size + 1, states.length);
        }

        void restore(Game game) {
            int latest = next > 0 ? next - 1 : states.length - 1;
            if (size <= 0 || latest < 0 || latest >= states.length || game == null) {
                return;
            }
            game.become(states[latest]);
            next = latest;
            size--;
        }
    }
}
