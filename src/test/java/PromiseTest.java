/**
 * Each promise of the document by itself, with answers worked out by hand. The game of a new object:
 * player 0 has 24=4-6 17=2-6 20=3-5 4=0-4 2=0-2, player 1 has 0=0-0 26=5-6 13=2-2 16=2-5 22=4-4, and
 * the stock is 19=3-4 9=1-3 25=5-5 23=4-5 3=0-3 21=3-6 27=6-6 18=3-3 14=2-3 10=1-4 8=1-2 15=2-4 6=0-6
 * 1=0-1 12=1-6 5=0-5 11=1-5 7=1-1.
 */
public final class PromiseTest {
    private static final Class<IndexOutOfBoundsException> INDEX = IndexOutOfBoundsException.class;
    private static final Class<IllegalArgumentException> ARGUMENT = IllegalArgumentException.class;
    private static final Class<IllegalStateException> STATE = IllegalStateException.class;
    private static final int MIN = Integer.MIN_VALUE;
    private static final int MAX = Integer.MAX_VALUE;

    private static final Checks checks = new Checks("PromiseTest");

    public static void main(String[] args) {
        newObject();
        begin();
        beginWithMorePlayers();
        lay();
        layRefused();
        layEndsTheGame();
        rustOnTurns();
        rustBySetting();
        draw();
        pass();
        passesBrokenByLaying();
        oil();
        set();
        append();
        clearBuffer();
        firstError();
        run();
        runRefused();
        runPlacesOfTwoDigits();
        keepAndGoBack();
        undo();
        undoIsForMarkedCallsOnly();
        allIsRestored();
        tileOf();
        hand();
        stock();
        playerOf();
        openEnds();
        rowOf();
        count();
        winner();
        setting();
        whyNot();
        longest();
        whole();
        trainsOfTenAndMore();
        advice();
        commonest();
        rustShare();
        digest();
        looksChangeNothing();
        checks.end();
    }

    // ---- helpers

    private static void due(String what, long want, long got) {
        checks.due(what, want, got);
    }

    private static void dueHand(RustTiles x, int player, int... tiles) {
        for (int place = 0; place < tiles.length; place++) {
            due("hand of " + player + " at " + place, tiles[place], x.hand(player, place));
        }
        due("end of the hand of " + player, -1, x.hand(player, tiles.length));
    }

    private static void dueGrades(RustTiles x, int tile, int first, int second) {
        due("first half of " + tile, first, x.tileOf(tile, 0));
        due("second half of " + tile, second, x.tileOf(tile, 1));
    }

    private static void dueRow(RustTiles x, int row, int tiles, int end0, int end1, int last) {
        due("row " + row + " tiles", tiles, x.rowOf(row, 0));
        due("row " + row + " end 0", end0, x.rowOf(row, 1));
        due("row " + row + " end 1", end1, x.rowOf(row, 2));
        due("row " + row + " last", last, x.rowOf(row, 3));
    }

    // ---- promise 1

    private static void newObject() {
        RustTiles x = new RustTiles();
        int[] counts = {2, 0, 18, 10, 0, 0, 0, 0, -1, 0, 6605, 0};
        for (int what = 0; what < counts.length; what++) {
            due("new count " + what, counts[what], x.count(what));
        }
        dueHand(x, 0, 24, 17, 20, 4, 2);
        dueHand(x, 1, 0, 26, 13, 16, 22);
        int[] stock = {19, 9, 25, 23, 3, 21, 27, 18, 14, 10, 8, 15, 6, 1, 12, 5, 11, 7};
        for (int place = 0; place < stock.length; place++) {
            due("new stock " + place, stock[place], x.stock(place));
        }
        due("new setting", 3, x.setting());
        due("new buffer", 0, x.clearBuffer());
        checks.thrown("new slot 0", STATE, () -> x.goBack(0));
        checks.thrown("new slot 1", STATE, () -> x.goBack(1));
        checks.thrown("new undo", STATE, x::undo);
    }

    // ---- promise 2

    private static void begin() {
        RustTiles x = new RustTiles();
        x.set(2);
        x.lay(9, 0, 0);
        x.lay(0, 0, 0);
        x.draw();
        x.draw();
        due("begin(2, 0)", 18, x.begin(2, 0));
        dueHand(x, 0, 5, 6, 9, 10, 0);
        dueHand(x, 1, 1, 13, 11, 8, 25);
        int[] counts = {2, 0, 18, 10, 0, 0, 0, 0, -1, 1, 7644, 6};
        for (int what = 0; what < counts.length; what++) {
            due("begun count " + what, counts[what], x.count(what));
        }
        due("the setting stays", 2, x.setting());
        dueRow(x, 0, 0, -1, -1, -1);
        for (int tile = 0, a = 0; a < 7; a++) {
            for (int b = a; b < 7; b++, tile++) {
                dueGrades(x, tile, a, b);
                due("rusted away", 0, x.tileOf(tile, 6));
                due("turns", 0, x.tileOf(tile, 4));
            }
        }
        for (int what = 2; what < 6; what++) {
            due("player 0 begins with " + what, what == 3 ? x.playerOf(0, 1) : 0, what == 3 ? x.playerOf(0, 3) : x.playerOf(0, what));
        }
        x.undo();
        due("undone begin", 24, x.rowOf(0, 3));
        for (int[] wrong : new int[][] {{1, 0}, {5, 0}, {MIN, 0}, {MAX, 0}, {2, -1}, {2, 10000}, {4, MIN}, {4, MAX}}) {
            long before = x.digest();
            checks.thrown("begin(" + wrong[0] + ", " + wrong[1] + ")", ARGUMENT, () -> x.begin(wrong[0], wrong[1]));
            due("nothing is changed", before, x.digest());
        }
    }

    private static void beginWithMorePlayers() {
        RustTiles x = new RustTiles();
        due("begin(3, 9999)", 13, x.begin(3, 9999));
        due("begin(4, 0)", 8, x.begin(4, 0));
        dueHand(x, 0, 5, 6, 9, 10, 0);
        dueHand(x, 3, 16, 4, 17, 23, 22);
        due("first of the stock", 12, x.stock(0));
        due("end of the stock", -1, x.stock(8));
        for (int player = 0; player < 4; player++) {
            due("on the move", player, x.count(1));
            x.draw();
        }
        due("on the move again", 0, x.count(1));
        due("begin(3, 0)", 13, x.begin(3, 0));
        for (int i = 0; i < 3; i++) {
            x.draw();
        }
        due("the first of three on the move again", 0, x.count(1));
    }

    // ---- promise 3

    private static void lay() {
        RustTiles x = new RustTiles();
        due("first tile, whatever end", 10, x.lay(0, 0, 1));
        dueRow(x, 0, 1, 4, 6, 24);
        dueHand(x, 0, 17, 20, 4, 2);
        due("two halves alike", 10, x.lay(4, 0, 0));
        dueRow(x, 0, 2, 4, 6, 22);
        due("second half fits", 10, x.lay(2, 0, 0));
        dueRow(x, 0, 3, 0, 6, 4);
        due("second half fits the end 1", 10, x.lay(1, 0, 1));
        dueRow(x, 0, 4, 0, 5, 26);
        due("first half fits", 10, x.lay(2, 0, 0));
        dueRow(x, 0, 5, 2, 5, 2);
        due("another row", 10, x.lay(0, 2, 0));
        dueRow(x, 2, 1, 0, 0, 0);
        dueRow(x, 1, 0, -1, -1, -1);
        due("turns", 6, x.count(5));
        due("saved states", 6, x.count(11));
    }

    private static void layRefused() {
        RustTiles x = new RustTiles();
        x.lay(0, 0, 0);
        for (int place : new int[] {-1, 5, MIN, MAX}) {
            due("no such place " + place, 2, x.lay(place, 0, 0));
        }
        due("does not match 4", 3, x.lay(1, 0, 0));
        due("does not match 6", 3, x.lay(2, 0, 1));
        due("no place goes ahead of no match", 2, x.lay(5, 0, 1));
        due("refused", 7, x.count(9));
        due("refused is saved", 6, x.count(11));
        due("no turn", 1, x.count(5));
        due("still on the move", 1, x.count(1));
        due("nothing aged", 0, x.tileOf(26, 4));
        long before = x.digest();
        for (int row : new int[] {-1, 3, MIN, MAX}) {
            checks.thrown("row " + row, INDEX, () -> x.lay(0, row, 0));
            checks.thrown("row " + row + " ahead of the end", INDEX, () -> x.lay(0, row, 2));
        }
        for (int end : new int[] {-1, 2, MIN, MAX}) {
            checks.thrown("end " + end, ARGUMENT, () -> x.lay(0, 0, end));
            checks.thrown("end " + end + " of an empty row", ARGUMENT, () -> x.lay(0, 1, end));
        }
        due("nothing is changed", before, x.digest());
    }

    private static void layEndsTheGame() {
        RustTiles x = Games.overByLaying();
        due("nobody on the move", -1, x.count(1));
        due("turns", 9, x.count(5));
        due("winner", 0, x.count(8));
        due("lay when over", 1, x.lay(0, 0, 0));
        due("over goes ahead of no place", 1, x.lay(-1, 0, 0));
        due("refused", 2, x.count(9));
        checks.thrown("row ahead of over", INDEX, () -> x.lay(0, 3, 0));
        checks.thrown("end ahead of over", ARGUMENT, () -> x.lay(0, 0, -1));
        x.undo();
        x.undo();
        x.undo();
        due("undone", 0, x.count(1));
        due("undone winner", -1, x.count(8));
    }

    // ---- turns rust

    private static void rustOnTurns() {
        RustTiles x = new RustTiles();
        x.set(1);
        x.draw();
        dueGrades(x, 24, 4, 5);
        dueGrades(x, 17, 2, 5);
        dueGrades(x, 20, 3, 4);
        dueGrades(x, 4, 0, 3);
        dueGrades(x, 2, 0, 1);
        dueGrades(x, 19, 3, 3);
        due("a tile just drawn is a turn old", 1, x.tileOf(19, 4));
        due("lost", 6, x.playerOf(0, 2));
        dueGrades(x, 26, 5, 6);
        due("only of the player on the move", 0, x.tileOf(26, 4));
        x.lay(0, 0, 0);
        dueGrades(x, 0, 0, 0);
        due("laid halves do not rust", 0, x.tileOf(0, 6));
        dueGrades(x, 13, 1, 2);
        dueGrades(x, 26, 5, 5);
        due("lost by player 1", 4, x.playerOf(1, 2));
        x.lay(2, 1, 0);
        dueGrades(x, 20, 3, 4);
        due("turns of the laying", 1, x.tileOf(20, 4));
        dueGrades(x, 2, 0, 0);
        x.draw();
        x.draw();
        dueGrades(x, 2, 0, 0);
        due("two noughts do not rust", 2, x.tileOf(2, 6));
        due("but grow older", 3, x.tileOf(2, 4));
    }

    private static void rustBySetting() {
        RustTiles x = new RustTiles();
        for (int turn = 1; turn <= 6; turn++) {
            x.draw();
            due("turns of 24", turn, x.tileOf(24, 4));
            due("rusted from 24", turn / 3, x.tileOf(24, 6));
            x.draw();
        }
        dueGrades(x, 24, 4, 4);
        due("the tile drawn second", 1, x.tileOf(25, 6));
        x.set(7);
        x.draw();
        dueGrades(x, 24, 3, 4);
    }

    // ---- promise 4

    private static void draw() {
        RustTiles x = new RustTiles();
        due("first draw", 19, x.draw());
        due("second draw", 9, x.draw());
        due("where it is", 1, x.tileOf(19, 2));
        due("whose it is", 0, x.tileOf(19, 3));
        due("the other's", 1, x.tileOf(9, 3));
        due("stock", 16, x.count(2));
        dueHand(x, 0, 24, 17, 20, 4, 2, 19);
        due("drawn", 1, x.playerOf(0, 5));
        due("saved", 2, x.count(11));
        RustTiles empty = Games.withEmptyStock();
        due("stock is empty", 0, empty.count(2));
        due("draw from nothing", 104, empty.draw());
        due("refused", 1, empty.count(9));
        due("no turn", 18, empty.count(5));
        empty.pass();
        empty.pass();
        due("over goes ahead of no stock", 101, empty.draw());
        RustTiles over = Games.overByLaying();
        due("draw when over", 101, over.draw());
        over.undo();
        due("undone refusal", 0, over.count(9));
    }

    // ---- promise 5

    private static void pass() {
        RustTiles x = new RustTiles();
        due("there is a stock", 5, x.pass());
        due("refused", 1, x.count(9));
        due("refused is saved", 1, x.count(11));
        due("still on the move", 0, x.count(1));
        for (int i = 0; i < 17; i++) {
            x.draw();
        }
        due("there is one tile of stock", 5, x.pass());
        RustTiles empty = Games.withEmptyStock();
        empty.set(5);
        due("first pass", 10, empty.pass());
        due("passes", 1, empty.count(6));
        due("the passer's tiles rust", 2, empty.tileOf(24, 6));
        due("a turn", 19, empty.count(5));
        due("the last pass", 11, empty.pass());
        due("the last one's tiles rust still", 2, empty.tileOf(26, 6));
        due("passes", 2, empty.count(6));
        due("nobody on the move", -1, empty.count(1));
        due("pass when over", 1, empty.pass());
        RustTiles over = Games.overByLaying();
        due("over goes ahead of a stock", 1, over.pass());
        RustTiles three = new RustTiles();
        three.begin(3, 0);
        for (int i = 0; i < 13; i++) {
            three.draw();
        }
        due("pass of the second", 10, three.pass());
        due("pass of the third", 10, three.pass());
        due("pass of the first", 11, three.pass());
    }

    private static void passesBrokenByLaying() {
        RustTiles x = Games.withEmptyStock();
        x.pass();
        due("lay behind a pass", 10, x.lay(0, 0, 0));
        due("passes are broken", 0, x.count(6));
        due("pass", 10, x.pass());
        due("refused behind a pass", 104, x.draw());
        due("passes are not broken", 1, x.count(6));
        due("pass", 11, x.pass());
    }

    // ---- promise 6

    private static void oil() {
        RustTiles x = new RustTiles();
        due("oil at first", 0, x.oil(0));
        x.draw();
        x.draw();
        x.draw();
        x.draw();
        due("oil of a tile drawn", 2, x.oil(5));
        due("turns then", 0, x.tileOf(19, 4));
        due("no turn", 4, x.count(5));
        due("still on the move", 0, x.count(1));
        due("saved", 6, x.count(11));
        x.draw();
        due("rusted", 1, x.tileOf(24, 6));
        due("not rusted", 0, x.tileOf(19, 6));
        long before = x.digest();
        for (int place : new int[] {-1, 7, MIN, MAX}) {
            checks.thrown("oil(" + place + ")", INDEX, () -> x.oil(place));
        }
        due("nothing is changed", before, x.digest());
        RustTiles over = Games.overByLaying();
        int saved = over.count(11);
        due("oil when over", -1, over.oil(0));
        due("oil nowhere when over", -1, over.oil(-1));
        due("is no refusal", 0, over.count(9));
        due("is saved", Math.min(saved + 2, 6), over.count(11));
    }

    // ---- promise 7

    private static void set() {
        RustTiles x = new RustTiles();
        due("set(1)", 3, x.set(1));
        due("set(9)", 1, x.set(9));
        due("set(9) again", 9, x.set(9));
        due("saved", 3, x.count(11));
        for (int value : new int[] {0, 10, -1, MIN, MAX}) {
            checks.thrown("set(" + value + ")", ARGUMENT, () -> x.set(value));
        }
        due("stays", 9, x.setting());
        due("saved still", 3, x.count(11));
        x.undo();
        x.undo();
        due("undone", 1, x.setting());
    }

    // ---- promise 8

    private static void append() {
        RustTiles x = new RustTiles();
        due("append(33)", 1, x.append(33));
        due("append(126)", 2, x.append(126));
        for (int code : new int[] {32, 127, 0, -1, MIN, MAX}) {
            checks.thrown("append(" + code + ")", ARGUMENT, () -> x.append(code));
        }
        for (int length = 3; length <= 60; length++) {
            due("append", length, x.append('d'));
        }
        checks.thrown("a full buffer", STATE, () -> x.append('d'));
        checks.thrown("the code ahead of a full buffer", ARGUMENT, () -> x.append(32));
        due("not undoable", 0, x.count(11));
        due("length", 60, x.clearBuffer());
        due("append behind clearing", 1, x.append('d'));
    }

    // ---- promise 9

    private static void clearBuffer() {
        RustTiles x = new RustTiles();
        due("of nothing", 0, x.clearBuffer());
        Games.write(x, "l0a");
        due("of three", 3, x.clearBuffer());
        due("of nothing again", 0, x.clearBuffer());
        due("no error left", 0, x.firstError());
        due("not undoable", 0, x.count(11));
    }

    // ---- promise 10

    private static void firstError() {
        String[] texts = {"", "l", "d", "p", "l0", "l9", "l1", "l2", "l10", "l19", "l20", "l27", "l0a", "l27c<", "l0b>",
            "d;", "d;p;l3a<;", "l12b>;d;d"};
        for (String text : texts) {
            dueError(text, text.length());
        }
        dueError(";", 0);
        dueError("a", 0);
        dueError("D", 0);
        dueError("0", 0);
        dueError("<", 0);
        dueError("x;d", 0);
        dueError("dd", 1);
        dueError("pp", 1);
        dueError("d0", 1);
        dueError("la", 1);
        dueError("ll", 1);
        dueError("l-1", 1);
        dueError("l00", 2);
        dueError("l01", 2);
        dueError("l28", 2);
        dueError("l29", 2);
        dueError("l30", 2);
        dueError("l99", 2);
        dueError("l100", 3);
        dueError("l270", 3);
        dueError("l0d", 2);
        dueError("l0A", 2);
        dueError("l0`", 2);
        dueError("l0<", 2);
        dueError("l0;", 2);
        dueError("l0aa", 3);
        dueError("l0a=", 3);
        dueError("l0a;", 3);
        dueError("l0a<>", 4);
        dueError("l0a<d", 4);
        dueError("d;;", 2);
        dueError("d;x", 2);
        dueError("p;l5c<;l28", 9);
        String longest = "d;d;d;d;d;d;d;d;d;d;d;d;d;d;d;d;d;d;d;d;d;d;d;d;d;d;d;d;d;d;";
        dueError(longest, 60);
        dueError(longest.substring(0, 56) + "l27c", 60);
    }

    private static void dueError(String text, int want) {
        RustTiles x = new RustTiles();
        Games.write(x, text);
        due("first error of " + text, want, x.firstError());
        due("the buffer stays " + text, text.length(), x.clearBuffer());
    }

    // ---- promise 11

    private static void run() {
        RustTiles x = new RustTiles();
        Games.write(x, "l0a<;d;l0a>");
        due("run", 3, x.run());
        due("the buffer is cleared", 0, x.clearBuffer());
        dueRow(x, 0, 2, 4, 2, 17);
        due("drawn", 1, x.playerOf(1, 5));
        due("turns", 3, x.count(5));
        due("one saved state", 1, x.count(11));
        due("undo all", 0, x.undo());
        due("no turns", 0, x.count(5));
        due("the buffer is not undone", 0, x.clearBuffer());
        dueRow(x, 0, 0, -1, -1, -1);
        for (String text : new String[] {"", "l", "l0", "l0a", "d;", "x", "dd", "l28a<", "d;l0a<;"}) {
            Games.write(x, text);
            checks.thrown("run " + text, ARGUMENT, x::run);
            due("the buffer stays", text.length(), x.clearBuffer());
        }
        due("nothing is saved", 0, x.count(11));
        due("no turns made", 0, x.count(5));
        RustTiles passing = Games.withEmptyStock();
        Games.write(passing, "p;p");
        due("run passes", 2, passing.run());
        due("over", -1, passing.count(1));
    }

    private static void runRefused() {
        RustTiles x = new RustTiles();
        Games.write(x, "l0c>;l0c>;d;d");
        due("up to the refused one", 1, x.run());
        due("refused is counted once", 1, x.count(9));
        due("turns", 1, x.count(5));
        due("the buffer is cleared", 0, x.clearBuffer());
        Games.write(x, "p;d");
        due("none made", 0, x.run());
        due("saved also if none is made", 2, x.count(11));
        due("refused", 2, x.count(9));
        x.undo();
        due("refused is undone", 1, x.count(9));
        RustTiles over = Games.withEmptyStock();
        Games.write(over, "d");
        due("draw is refused", 0, over.run());
        Games.write(over, "p;p;p;p");
        due("over by the second", 2, over.run());
        due("refused", 2, over.count(9));
    }

    private static void runPlacesOfTwoDigits() {
        RustTiles x = Games.withEmptyStock();
        Games.write(x, "l13a<;l12b>;l10b<");
        due("run", 2, x.run());
        dueRow(x, 0, 1, 1, 5, 11);
        dueRow(x, 1, 1, 0, 5, 5);
        due("the third does not match", 1, x.count(9));
        Games.write(x, "l27c<");
        due("no such place", 0, x.run());
        Games.write(x, "l9c<");
        due("place 9", 1, x.run());
        dueRow(x, 2, 1, 2, 3, 14);
        x.undo();
        Games.write(x, "l11b<");
        due("place 11", 1, x.run());
        dueRow(x, 1, 2, 6, 5, 6);
    }

    // ---- promises 12 and 13

    private static void keepAndGoBack() {
        RustTiles x = new RustTiles();
        x.set(2);
        x.pass();
        due("keep(0)", 18, x.keep(0));
        due("keep is not undoable", 2, x.count(11));
        due("draw", 19, x.draw());
        due("keep(1)", 17, x.keep(1));
        x.begin(4, 7);
        x.set(5);
        x.pass();
        Games.write(x, "d;d");
        due("goBack(0)", 18, x.goBack(0));
        due("players", 2, x.count(0));
        due("setting", 2, x.setting());
        due("refused", 1, x.count(9));
        due("the buffer stays", 3, x.firstError());
        due("saved", 6, x.count(11));
        dueHand(x, 0, 24, 17, 20, 4, 2);
        due("goBack(1)", 17, x.goBack(1));
        dueHand(x, 0, 24, 17, 20, 4, 2, 19);
        due("on the move", 1, x.count(1));
        x.undo();
        x.undo();
        due("goBack is undone", 4, x.count(0));
        due("goBack(0) again", 18, x.goBack(0));
        x.draw();
        x.draw();
        x.draw();
        due("keep(0) in place", 15, x.keep(0));
        x.draw();
        due("goBack(0) to the later one", 15, x.goBack(0));
        due("three turns", 3, x.count(5));
        x.draw();
        due("the snapshot stays", 15, x.goBack(0));
        for (int slot : new int[] {-1, 2, MIN, MAX}) {
            checks.thrown("keep(" + slot + ")", ARGUMENT, () -> x.keep(slot));
            checks.thrown("goBack(" + slot + ")", ARGUMENT, () -> x.goBack(slot));
        }
        RustTiles fresh = new RustTiles();
        fresh.keep(1);
        checks.thrown("an empty slot", STATE, () -> fresh.goBack(0));
        due("nothing is saved", 0, fresh.count(11));
        due("the other slot", 18, fresh.goBack(1));
        due("saved", 1, fresh.count(11));
    }

    // ---- promise 14

    private static void undo() {
        RustTiles x = new RustTiles();
        long[] digests = new long[9];
        for (int i = 0; i < 9; i++) {
            digests[i] = x.count(5);
            x.draw();
        }
        due("at most six", 6, x.count(11));
        for (int left = 5; left >= 0; left--) {
            due("left", left, x.undo());
            due("turns", digests[left + 3], x.count(5));
        }
        checks.thrown("none left", STATE, x::undo);
        due("the oldest are dropped", 3, x.count(5));
        dueHand(x, 0, 24, 17, 20, 4, 2, 19, 25);
        x.draw();
        due("again", 0, x.undo());
        x.keep(0);
        x.pass();
        due("undo leaves the slots", 0, x.undo());
        due("a slot", 15, x.goBack(0));
    }

    private static void undoIsForMarkedCallsOnly() {
        RustTiles x = new RustTiles();
        x.append('d');
        x.firstError();
        x.keep(0);
        x.whyNot(0, 0, 0);
        x.clearBuffer();
        due("not marked", 0, x.count(11));
        x.begin(2, 5);
        x.lay(0, 0, 0);
        x.draw();
        x.pass();
        x.oil(0);
        x.set(3);
        due("marked", 6, x.count(11));
        x.undo();
        x.undo();
        due("popped", 4, x.count(11));
        x.goBack(0);
        x.append('d');
        x.run();
        due("marked too", 6, x.count(11));
    }

    private static void allIsRestored() {
        RustTiles x = new RustTiles();
        x.set(4);
        Games.write(x, "l0a<;l4a<;d;d;d;d;d;d;d;d;d;d;d;d;d;d;d;d;d;d;d;d");
        due("turns of the text", 20, x.run());
        Games.write(x, "p;l12b>;p;d");
        due("turns of the next text", 3, x.run());
        due("a pass is open", 1, x.count(6));
        long before = x.digest();
        x.begin(4, 77);
        due("no pass is open", 0, x.count(6));
        x.set(1);
        x.lay(0, 0, 0);
        for (int i = 0; i < 3; i++) {
            x.undo();
        }
        due("undo restores all", before, x.digest());
        for (int i = 0; i < 4; i++) {
            x.set(4);
        }
        x.keep(1);
        before = x.digest();
        x.begin(3, 78);
        x.set(1);
        x.draw();
        x.pass();
        x.goBack(1);
        due("goBack restores all", before, x.digest());
        x.set(2);
        x.lay(0, 2, 0);
        x.goBack(1);
        due("the snapshot is not played on", before, x.digest());
    }

    // ---- promise 15

    private static void tileOf() {
        RustTiles x = new RustTiles();
        x.set(1);
        x.lay(0, 2, 0);
        x.draw();
        x.draw();
        dueTile(x, 24, 4, 6, 2, 0, 0, 2, 0);
        dueTile(x, 17, 2, 4, 1, 0, 2, -1, 2);
        dueTile(x, 19, 3, 3, 1, 1, 1, -1, 1);
        dueTile(x, 9, 1, 2, 1, 0, 1, -1, 1);
        dueTile(x, 25, 5, 5, 0, -1, 0, -1, 0);
        dueTile(x, 26, 5, 5, 1, 1, 1, -1, 1);
        x.lay(1, 1, 0);
        dueTile(x, 26, 5, 5, 2, 1, 1, 1, 1);
        for (int tile : new int[] {-1, 28, MIN, MAX}) {
            checks.thrown("tileOf(" + tile + ", 0)", INDEX, () -> x.tileOf(tile, 0));
            checks.thrown("tileOf(" + tile + ", 7)", INDEX, () -> x.tileOf(tile, 7));
        }
        for (int what : new int[] {-1, 7, MIN, MAX}) {
            checks.thrown("tileOf(0, " + what + ")", ARGUMENT, () -> x.tileOf(0, what));
        }
    }

    private static void dueTile(RustTiles x, int tile, int... properties) {
        for (int what = 0; what < properties.length; what++) {
            due("tileOf(" + tile + ", " + what + ")", properties[what], x.tileOf(tile, what));
        }
    }

    // ---- promise 16

    private static void hand() {
        RustTiles x = new RustTiles();
        x.lay(2, 0, 0);
        x.draw();
        x.draw();
        dueHand(x, 0, 24, 17, 4, 2, 9);
        dueHand(x, 1, 0, 26, 13, 16, 22, 19);
        due("far behind", -1, x.hand(0, MAX));
        for (int player : new int[] {-1, 2, 3, 4, MIN, MAX}) {
            checks.thrown("hand(" + player + ", 0)", INDEX, () -> x.hand(player, 0));
            checks.thrown("hand(" + player + ", -1)", INDEX, () -> x.hand(player, -1));
        }
        checks.thrown("hand(0, -1)", ARGUMENT, () -> x.hand(0, -1));
        checks.thrown("hand(0, MIN)", ARGUMENT, () -> x.hand(0, MIN));
        x.begin(3, 1);
        due("the third player", 19, x.hand(2, 0));
        checks.thrown("hand(3, 0)", INDEX, () -> x.hand(3, 0));
    }

    // ---- promise 17

    private static void stock() {
        RustTiles x = new RustTiles();
        x.draw();
        due("the first", 9, x.stock(0));
        due("the last", 7, x.stock(16));
        due("behind it", -1, x.stock(17));
        due("far behind", -1, x.stock(MAX));
        checks.thrown("stock(-1)", ARGUMENT, () -> x.stock(-1));
        checks.thrown("stock(MIN)", ARGUMENT, () -> x.stock(MIN));
        due("of an empty stock", -1, Games.withEmptyStock().stock(0));
    }

    // ---- promise 18

    private static void playerOf() {
        RustTiles x = new RustTiles();
        x.set(1);
        x.draw();
        x.lay(0, 0, 0);
        x.draw();
        int[] first = {7, 30, 13, 43, 0, 2, 4};
        int[] second = {4, 26, 4, 30, 1, 0, 2};
        for (int what = 0; what < 7; what++) {
            due("playerOf(0, " + what + ")", first[what], x.playerOf(0, what));
            due("playerOf(1, " + what + ")", second[what], x.playerOf(1, what));
        }
        for (int player : new int[] {-1, 2, 4, MIN, MAX}) {
            checks.thrown("playerOf(" + player + ", 0)", INDEX, () -> x.playerOf(player, 0));
            checks.thrown("playerOf(" + player + ", 7)", INDEX, () -> x.playerOf(player, 7));
        }
        for (int what : new int[] {-1, 7, MIN, MAX}) {
            checks.thrown("playerOf(0, " + what + ")", ARGUMENT, () -> x.playerOf(0, what));
        }
    }

    private static void openEnds() {
        RustTiles x = new RustTiles();
        x.set(9);
        due("empty rows are told once", 3, x.playerOf(0, 6));
        x.lay(0, 0, 0);
        due("both ends and two empty rows", 4, x.playerOf(0, 6));
        due("the other's", 4, x.playerOf(1, 6));
        x.lay(0, 1, 0);
        due("4, 6, 0, 0 and an empty row", 5, x.playerOf(0, 6));
        due("4, 6 and an empty row", 3, x.playerOf(1, 6));
        RustTiles over = Games.overByLaying();
        due("a hand without tiles", 0, over.playerOf(0, 6));
        // The rows are open with 4, 4, 3 and 5.
        due("as if on the move", 5, over.playerOf(1, 6));
    }

    // ---- promise 19

    private static void rowOf() {
        RustTiles x = new RustTiles();
        for (int row = 0; row < 3; row++) {
            dueRow(x, row, 0, -1, -1, -1);
        }
        x.lay(4, 2, 1);
        dueRow(x, 2, 1, 0, 2, 2);
        x.lay(2, 2, 1);
        dueRow(x, 2, 2, 0, 2, 13);
        x.lay(1, 2, 1);
        dueRow(x, 2, 3, 0, 6, 17);
        x.lay(0, 2, 0);
        dueRow(x, 2, 4, 0, 6, 0);
        dueRow(x, 0, 0, -1, -1, -1);
        for (int row : new int[] {-1, 3, MIN, MAX}) {
            checks.thrown("rowOf(" + row + ", 0)", INDEX, () -> x.rowOf(row, 0));
            checks.thrown("rowOf(" + row + ", 4)", INDEX, () -> x.rowOf(row, 4));
        }
        for (int what : new int[] {-1, 4, MIN, MAX}) {
            checks.thrown("rowOf(0, " + what + ")", ARGUMENT, () -> x.rowOf(0, what));
        }
    }

    // ---- promise 20

    private static void count() {
        RustTiles x = new RustTiles();
        x.begin(3, 0);
        x.set(1);
        x.lay(3, 1, 0);
        x.pass();
        x.draw();
        x.pass();
        x.draw();
        int[] counts = {3, 0, 11, 16, 1, 3, 0, 15, -1, 2, 7644, 6};
        for (int what = 0; what < counts.length; what++) {
            due("count(" + what + ")", counts[what], x.count(what));
        }
        x.begin(2, 0);
        due("refused also in earlier games", 2, x.count(9));
        due("lost in this game", 0, x.count(7));
        for (int what : new int[] {-1, 12, MIN, MAX}) {
            checks.thrown("count(" + what + ")", ARGUMENT, () -> x.count(what));
        }
    }

    private static void winner() {
        RustTiles x = Games.withEmptyStock();
        due("not over", -1, x.count(8));
        x.pass();
        x.pass();
        due("the sum of 0", 91, x.playerOf(0, 3));
        due("the sum of 1", 77, x.playerOf(1, 3));
        due("the least sum", 1, x.count(8));
        due("the least sum of one who laid", 0, Games.overByLaying().count(8));
        dueWinnerOfDrawing(2, 22, 0);
        dueWinnerOfDrawing(3, 35, 1);
        dueWinnerOfDrawing(4, 100, 0);
    }

    private static void dueWinnerOfDrawing(int players, int lot, int want) {
        RustTiles x = new RustTiles();
        x.begin(players, lot);
        while (x.count(2) > 0) {
            x.draw();
        }
        for (int i = 0; i < players; i++) {
            due("not over", -1, x.count(8));
            x.pass();
        }
        due("the winner of " + players + " with the lot " + lot, want, x.count(8));
    }

    // ---- promise 21

    private static void setting() {
        RustTiles x = new RustTiles();
        due("at first", 3, x.setting());
        x.set(8);
        due("changed", 8, x.setting());
        x.begin(4, 4);
        due("stays", 8, x.setting());
    }

    // ---- promise 22

    private static void whyNot() {
        RustTiles x = new RustTiles();
        due("an empty row", 0, x.whyNot(4, 2, 1));
        x.lay(0, 0, 0);
        due("5-6 at 4", 3, x.whyNot(1, 0, 0));
        due("5-6 at 6", 0, x.whyNot(1, 0, 1));
        due("4-4 at 4", 0, x.whyNot(4, 0, 0));
        due("4-4 at 6", 3, x.whyNot(4, 0, 1));
        for (int place : new int[] {-1, 5, MIN, MAX}) {
            due("place " + place, 2, x.whyNot(place, 0, 0));
        }
        due("is not counted", 0, x.count(9));
        due("is not saved", 1, x.count(11));
        for (int row : new int[] {-1, 3, MIN, MAX}) {
            checks.thrown("row " + row, INDEX, () -> x.whyNot(0, row, 0));
            checks.thrown("row " + row + " ahead of the end", INDEX, () -> x.whyNot(0, row, -1));
        }
        for (int end : new int[] {-1, 2, MIN, MAX}) {
            checks.thrown("end " + end, ARGUMENT, () -> x.whyNot(0, 1, end));
        }
        RustTiles over = Games.overByLaying();
        due("over", 1, over.whyNot(0, 2, 0));
        due("over ahead of the place", 1, over.whyNot(-1, 2, 0));
        checks.thrown("row ahead of over", INDEX, () -> over.whyNot(0, 3, 0));
    }

    // ---- promise 23

    private static void longest() {
        RustTiles x = new RustTiles();
        int[] first = {4, 0, 4, 1, 4, 1, 4};
        // From 2: 2-2, 2-5, 5-6; from 4: 4-4; from 5: 5-2, 2-2.
        int[] second = {1, 0, 3, 0, 1, 2, 3};
        for (int grade = 0; grade < 7; grade++) {
            due("longest(0, " + grade + ")", first[grade], x.longest(0, grade));
            due("longest(1, " + grade + ")", second[grade], x.longest(1, grade));
        }
        x.set(1);
        x.draw();
        // 4-5 2-5 3-4 0-3 0-1 3-3: all behind 2, and all but none else.
        due("as they are now", 6, x.longest(0, 2));
        due("as they are now, from 1", 6, x.longest(0, 1));
        due("as they are now, from 6", 0, x.longest(0, 6));
        for (int player : new int[] {-1, 2, MIN, MAX}) {
            checks.thrown("longest(" + player + ", 0)", INDEX, () -> x.longest(player, 0));
            checks.thrown("longest(" + player + ", 7)", INDEX, () -> x.longest(player, 7));
        }
        for (int grade : new int[] {-1, 7, MIN, MAX}) {
            checks.thrown("longest(0, " + grade + ")", ARGUMENT, () -> x.longest(0, grade));
        }
        due("of a hand without tiles", 0, Games.overByLaying().longest(0, 4));
    }

    // ---- promise 24

    private static void whole() {
        RustTiles x = new RustTiles();
        x.set(9);
        dueWhole(x, 0, 0, 0, 0, 0, 0, 0, 0);
        Games.write(x, "d;l0a<;l0b<;l3c<");
        due("turns", 4, x.run());
        // Player 1 has 5-6 2-2 2-5.
        dueWhole(x, 1, 0, 0, 1, 0, 0, 0, 1);
        RustTiles ring = new RustTiles();
        ring.set(9);
        ring.lay(2, 0, 0);
        // Player 0 has 4-6 2-6 0-4 0-2.
        dueWhole(ring, 0, 1, 0, 1, 0, 1, 0, 1);
        dueWhole(Games.overByLaying(), 0, 1, 1, 1, 1, 1, 1, 1);
        RustTiles apart = new RustTiles();
        apart.set(9);
        apart.draw();
        apart.lay(4, 0, 0);
        // Player 1 has 0-0 5-6 2-2 2-5.
        dueWhole(apart, 1, 0, 0, 0, 0, 0, 0, 0);
        for (int player : new int[] {-1, 2, MIN, MAX}) {
            checks.thrown("whole(" + player + ", 0, 0)", INDEX, () -> x.whole(player, 0, 0));
            checks.thrown("whole(" + player + ", 7, 2)", INDEX, () -> x.whole(player, 7, 2));
        }
        for (int grade : new int[] {-1, 7, MIN, MAX}) {
            checks.thrown("whole(0, " + grade + ", 0)", ARGUMENT, () -> x.whole(0, grade, 0));
        }
        for (int what : new int[] {-1, 2, MIN, MAX}) {
            checks.thrown("whole(0, 0, " + what + ")", ARGUMENT, () -> x.whole(0, 0, what));
        }
    }

    private static void dueWhole(RustTiles x, int player, int... wants) {
        for (int grade = 0; grade < 7; grade++) {
            due("whole(" + player + ", " + grade + ", 0)", wants[grade], x.whole(player, grade, 0));
            due("whole(" + player + ", " + grade + ", 1)", wants[grade], x.whole(player, grade, 1));
        }
    }

    private static void trainsOfTenAndMore() {
        RustTiles x = new RustTiles();
        x.set(1);
        for (int i = 0; i < 10; i++) {
            x.draw();
        }
        due("ten tiles", 10, x.playerOf(0, 0));
        // Player 0 has 2-3 1-2 1-2 0-0 0-0 1-1 3-3 0-0 5-5 2-2.
        int[] most = {3, 5, 6, 6, 0, 1, 0};
        for (int grade = 0; grade < 7; grade++) {
            due("longest of ten from " + grade, most[grade], x.longest(0, grade));
        }
        dueWhole(x, 0, 0, 0, 0, 0, 0, 0, 0);
        x.draw();
        for (int grade = 0; grade < 7; grade++) {
            due("longest of eleven", -1, x.longest(0, grade));
            due("whole of eleven by trying", -1, x.whole(0, grade, 0));
            due("whole of eleven by counting", -1, x.whole(0, grade, 1));
        }
        checks.thrown("the grade ahead of the size", ARGUMENT, () -> x.longest(0, 7));
        checks.thrown("the grade ahead of the size, whole", ARGUMENT, () -> x.whole(0, 7, 0));
    }

    // ---- promise 25

    private static void advice() {
        RustTiles x = new RustTiles();
        due("the greatest grades", 0, x.advice());
        x.lay(0, 0, 0);
        due("5-6", 1, x.advice());
        x.draw();
        due("of 2-6 and 3-5 the lowest place", 0, x.advice());
        x.oil(0);
        due("the one with the most turns", 1, x.advice());
        x.oil(1);
        due("alike again", 0, x.advice());
        RustTiles filled = new RustTiles();
        filled.set(9);
        // Rows open with 0 0, 0 2 and 0 4.
        Games.write(filled, "l4a<;l0b<;l3c<");
        due("turns", 3, filled.run());
        due("of 5-6 2-2 2-5 4-4 that fit 0 2 4: 4-4", 3, filled.advice());
        filled.draw();
        // Player 0 has 4-6 2-6 3-5.
        due("4-6", 0, filled.advice());
        filled.lay(0, 2, 1);
        filled.draw();
        due("2-6", 0, filled.advice());
        filled.lay(0, 0, 1);
        filled.draw();
        due("3-5 fits nothing", -1, filled.advice());
        // Rows open with 4 6, 3 6 and 0 0: of 2-2 2-5 4-4 just one fits, and at one end.
        dueAdvice("l2b<;l0c<;l0a<;l0b>;d", 2);
        // Rows open with 4 6, 3 2 and 0 0: 5-6 fits at one end alone.
        dueAdvice("l2b<;l0c<;l0a<;l2b>;d", 0);
        due("over", -1, Games.overByLaying().advice());
        RustTiles passed = Games.withEmptyStock();
        passed.pass();
        passed.pass();
        due("over with empty rows", -1, passed.advice());
    }

    private static void dueAdvice(String text, int want) {
        RustTiles x = new RustTiles();
        x.set(9);
        Games.write(x, text);
        due("turns of " + text, 5, x.run());
        due("advice behind " + text, want, x.advice());
    }

    // ---- promise 26

    private static void commonest() {
        RustTiles x = new RustTiles();
        due("of all alike the greatest", 6, x.commonest());
        x.lay(0, 0, 0);
        due("4 and 6 are laid", 5, x.commonest());
        RustTiles noughts = new RustTiles();
        noughts.set(1);
        for (int i = 0; i < 10; i++) {
            noughts.draw();
        }
        due("15 noughts, those of 0-0 too, and 14 ones", 0, noughts.commonest());
        noughts.draw();
        due("16 noughts and 17 ones", 1, noughts.commonest());
        RustTiles rusty = new RustTiles();
        rusty.set(1);
        rusty.draw();
        // Twice 6 to 5, 5 to 4, twice 4 to 3, 2 to 1: 6 is there 6 times, 5 9, 4 7, 3 10, 2 7, 1 9.
        due("rusted", 3, rusty.commonest());
    }

    // ---- promise 27

    private static void rustShare() {
        RustTiles x = new RustTiles();
        due("none", 0, Double.doubleToLongBits(x.rustShare()));
        x.set(1);
        x.draw();
        due("6 of 168", Double.doubleToLongBits(6.0 / 168), Double.doubleToLongBits(x.rustShare()));
        x.draw();
        due("of all players", Double.doubleToLongBits(11.0 / 168), Double.doubleToLongBits(x.rustShare()));
        x.begin(2, 0);
        due("in this game", 0, Double.doubleToLongBits(x.rustShare()));
    }

    // ---- promise 28

    private static void digest() {
        due("the digest of a new object", -3818730031204147288L, new RustTiles().digest());
        dueDigest(new RustTiles(), 0, 0, "");
        for (int turns = 1; turns <= 12; turns++) {
            RustTiles drawn = new RustTiles();
            drawn.set(1);
            Games.draw(drawn, turns);
            dueDigest(drawn, 0, 0, "");
        }
        RustTiles x = new RustTiles();
        x.keep(1);
        Games.write(x, "l0a<;~");
        x.begin(4, 77);
        x.lay(0, 0, 0);
        x.lay(1, 0, 0);
        dueDigest(x, 0, 1, "l0a<;~");
        x = new RustTiles();
        x.keep(0);
        Games.write(x, "l0a<;~");
        x.draw();
        x.undo();
        x.clearBuffer();
        dueDigest(x, 1, 0, "");
        dueDigest(Games.overByLaying(), 0, 0, "");
    }

    // The slots and the buffer cannot be looked at, so they are told.
    private static void dueDigest(RustTiles x, int slot0, int slot1, String text) {
        due("digest", DigestOf.all(x, slot0, slot1, text), x.digest());
    }

    // ---- looks

    private static void looksChangeNothing() {
        RustTiles x = Games.overByLaying();
        dueLooksQuiet(x);
        dueLooksQuiet(new RustTiles());
        dueLooksQuiet(Games.withEmptyStock());
    }

    private static void dueLooksQuiet(RustTiles x) {
        Games.write(x, "d;p");
        long before = x.digest();
        x.tileOf(3, 4);
        x.hand(1, 2);
        x.stock(3);
        x.playerOf(1, 6);
        x.rowOf(2, 1);
        x.count(8);
        x.setting();
        x.whyNot(0, 0, 0);
        x.longest(1, 3);
        x.whole(1, 3, 0);
        x.whole(1, 3, 1);
        x.advice();
        x.commonest();
        x.rustShare();
        x.firstError();
        due("looks change nothing", before, x.digest());
    }
}
