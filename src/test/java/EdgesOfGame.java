/** The boundary cases that promises 1 to 7 name: a new object, begin, lay, draw, pass, oil, set. */
final class EdgesOfGame {
    private static final int MIN = Sentences.MIN;
    private static final int MAX = Sentences.MAX;

    private final Sentences s;

    EdgesOfGame(Sentences s) {
        this.s = s;
    }

    void all() {
        newObject();
        begin();
        lay();
        layRefused();
        draw();
        pass();
        oil();
        set();
    }

    // ---- promise 1

    private void newObject() {
        s.under("Promise 1: A new object");
        s.test("`RustTiles()`: Creates a game that is begun, with empty slots and an empty buffer.", () -> {
            RustTiles x = new RustTiles();
            s.dueCounts(x, 2, 0, 18, 10, 0, 0, 0, 0, -1, 0, 6605, 0);
            s.dueHand(x, 0, 24, 17, 20, 4, 2);
            s.dueHand(x, 1, 0, 26, 13, 16, 22);
            s.dueThrows("slot 0 is empty", Sentences.STATE, x, y -> y.goBack(0));
            s.dueThrows("slot 1 is empty", Sentences.STATE, x, y -> y.goBack(1));
            s.dueThrows("nothing is saved", Sentences.STATE, x, y -> y.undo());
            s.dueThrows("an empty buffer tells no turns", Sentences.ARGUMENT, x, y -> y.run());
            s.due("no error in an empty buffer", 0, x.firstError());
            s.due("an empty buffer", 0, x.clearBuffer());
            long before = x.digest();
            RustTiles other = Games.full();
            s.due("another object is another game", 3, other.count(0));
            s.due("and changes nothing of it", before, x.digest());
        });
    }

    // ---- promise 2

    private void begin() {
        s.under("Promise 2: begin");
        s.test("Begins a game.", () -> {
            RustTiles[] behind = {new RustTiles(), Games.overByLaying(), Games.overByPassing(), Games.full(), Games.rustedAway()};
            for (RustTiles x : behind) {
                int refused = x.count(9);
                int setting = x.setting();
                x.begin(3, 1);
                x.pass();
                RustTiles wanted = Games.begun(3);
                wanted.pass();
                s.dueAlike("begun", wanted, x, "count(9)", "count(11)", "setting()", "firstError()");
                s.due("what was refused stays", refused + 1, x.count(9));
                s.due("the setting stays", setting, x.setting());
            }
            RustTiles full = Games.full();
            full.begin(2, 9);
            s.due("the buffer stays", 8, full.clearBuffer());
            s.due("slot 1 stays", 0, full.goBack(1));
            s.due("slot 0 stays", 17, full.goBack(0));
        });
        s.test("Undoable.", () -> {
            s.dueUndoable("begin", Games::full, x -> x.begin(2, 0));
            s.dueUndoable("begin the same", () -> Games.begun(2), x -> x.begin(2, 1));
            s.dueUndoable("begin when over", Games::overByLaying, x -> x.begin(4, 9999));
        });
        s.test("- `players`: 2 to 4", () -> {
            int[] left = {18, 13, 8};
            for (int players = 2; players <= 4; players++) {
                s.due(players + " players", left[players - 2], new RustTiles().begin(players, 1));
            }
            for (int players : new int[] {1, 5, 0, -1, MIN, MAX}) {
                s.dueThrows(players + " players", Sentences.ARGUMENT, Games.full(), y -> y.begin(players, 1));
            }
        });
        s.test("- `x`: the lot, 0 to 9999", () -> {
            RustTiles x = new RustTiles();
            s.due("the least lot", 18, x.begin(2, 0));
            s.dueHand(x, 0, 5, 6, 9, 10, 0);
            s.due("the greatest lot", 18, x.begin(2, 9999));
            for (int place = 0; place < 18; place++) {
                s.due("stock by the greatest lot", Games.orderBy(9999).get(10 + place), x.stock(place));
            }
            for (int lot : new int[] {-1, 10000, 10001, -9999, MIN, MAX}) {
                s.dueThrows("the lot " + lot, Sentences.ARGUMENT, Games.full(), y -> y.begin(2, lot));
            }
        });
        s.test("Returns how many tiles are in the stock.", () -> {
            for (int players = 2; players <= 4; players++) {
                RustTiles x = Games.overByPassing();
                s.due("returned", 28 - 5 * players, x.begin(players, 5));
                s.due("counted", 28 - 5 * players, x.count(2));
            }
        });
        s.test("Throws `IllegalArgumentException` if an argument is out of range", () -> {
            for (int[] wrong : new int[][] {{1, 0}, {5, 9999}, {2, -1}, {4, 10000}, {1, -1}, {5, 10000}}) {
                s.dueThrows("begin(" + wrong[0] + ", " + wrong[1] + ")", Sentences.ARGUMENT, Games.full(),
                    y -> y.begin(wrong[0], wrong[1]));
            }
        });
    }

    // ---- promise 3

    private void lay() {
        s.under("Promise 3: lay");
        s.test("The player on the move lays a tile.", () -> {
            RustTiles x = new RustTiles();
            x.draw();
            s.due("player 1 lays", 10, x.lay(1, 0, 0));
            s.dueHand(x, 1, 0, 13, 16, 22);
            s.dueHand(x, 0, 24, 17, 20, 4, 2, 19);
            s.due("the tile is laid", 2, x.tileOf(26, 2));
            s.due("laid by player 1", 1, x.playerOf(1, 4));
            s.due("laid by player 0", 0, x.playerOf(0, 4));
            s.due("turns", 2, x.count(5));
        });
        s.test("Undoable, also if it is refused.", () -> {
            s.dueUndoable("lay", RustTiles::new, x -> x.lay(0, 0, 0));
            s.dueUndoable("the last lay", Games::aTileFromTheEnd, x -> x.lay(0, 1, 0));
            s.dueUndoable("lay behind a pass", EdgesOfGame::passedOnce, x -> x.lay(0, 0, 0));
            s.dueUndoable("lay that is refused", Games::full, x -> x.lay(-1, 0, 0));
        });
        s.test("- `place`: its place in the hand, from 0", () -> {
            for (int place = 0; place < 5; place++) {
                RustTiles x = new RustTiles();
                s.due("place " + place, 10, x.lay(place, 0, 0));
                s.due("its tile", Games.ORDER[place], x.rowOf(0, 3));
                s.due("the hand has a tile less", -1, x.hand(0, 4));
            }
            RustTiles x = new RustTiles();
            s.due("the place behind the last", 2, x.lay(5, 0, 0));
            s.due("the place before the first", 2, x.lay(-1, 0, 0));
            x.lay(0, 0, 0);
            x.draw();
            s.due("the place behind the last one now", 2, x.lay(4, 1, 0));
            s.due("the last place now", 10, x.lay(3, 1, 0));
            RustTiles longer = Games.behind("d");
            s.due("a place that the other one's hand has", 2, longer.lay(5, 0, 0));
        });
        s.test("- `row`: 0 to 2", () -> {
            for (int row = 0; row <= 2; row++) {
                RustTiles x = new RustTiles();
                s.due("row " + row, 10, x.lay(0, row, 0));
                for (int other = 0; other <= 2; other++) {
                    s.due("tiles of row " + other, other == row ? 1 : 0, x.rowOf(other, 0));
                }
                s.due("row of the tile", row, x.tileOf(24, 5));
            }
        });
        s.test("- `end`: 0 or 1", () -> {
            for (int end = 0; end <= 1; end++) {
                RustTiles x = new RustTiles();
                x.lay(0, 0, 0);
                s.due("4-4 at the end " + end, end == 0 ? 10 : 3, x.lay(4, 0, end));
                RustTiles y = new RustTiles();
                y.lay(0, 0, 0);
                s.due("5-6 at the end " + end, end == 0 ? 3 : 10, y.lay(1, 0, end));
            }
        });
        s.test("Returns 10, or 11 if the game is over by it;", () -> {
            RustTiles x = Games.aTileFromTheEnd();
            s.due("the last tile but for its place", 2, x.lay(1, 1, 0));
            s.due("the last tile", 11, x.lay(0, 1, 0));
            RustTiles other = Games.behind("d;l0a<;d;l0b<;d;l1b<;d");
            s.due("the last tile but one", 10, other.lay(0, 1, 0));
            other.draw();
            s.due("the last tile of player 1", 11, other.lay(0, 2, 1));
            RustTiles passed = passedOnce();
            s.due("a lay behind all but one pass", 10, passed.lay(0, 0, 0));
        });
        s.test("Throws `IndexOutOfBoundsException` if there is no such row", () -> {
            for (int row : new int[] {-1, 3, MIN, MAX}) {
                s.dueThrows("row " + row, Sentences.INDEX, Games.full(), y -> y.lay(0, row, 0));
                s.dueThrows("row " + row + " with no such place", Sentences.INDEX, Games.full(), y -> y.lay(-1, row, 0));
                s.dueThrows("row " + row + " with no such end", Sentences.INDEX, Games.full(), y -> y.lay(0, row, -1));
                s.dueThrows("row " + row + " when over", Sentences.INDEX, Games.overByLaying(), y -> y.lay(0, row, 0));
            }
        });
        s.test("Throws `IllegalArgumentException` if end is out of range", () -> {
            for (int end : new int[] {-1, 2, MIN, MAX}) {
                s.dueThrows("end " + end, Sentences.ARGUMENT, Games.full(), y -> y.lay(0, 1, end));
                s.dueThrows("end " + end + " of an empty row", Sentences.ARGUMENT, new RustTiles(), y -> y.lay(0, 2, end));
                s.dueThrows("end " + end + " with no such place", Sentences.ARGUMENT, Games.full(), y -> y.lay(99, 0, end));
                s.dueThrows("end " + end + " when over", Sentences.ARGUMENT, Games.overByPassing(), y -> y.lay(0, 0, end));
            }
        });
    }

    private static RustTiles passedOnce() {
        RustTiles x = Games.withEmptyStock();
        x.pass();
        return x;
    }

    private static RustTiles aTileLaid() {
        RustTiles x = new RustTiles();
        x.lay(0, 0, 0);
        return x;
    }

    private static RustTiles aTileLeft() {
        RustTiles x = new RustTiles();
        Games.draw(x, 17);
        return x;
    }

    private void layRefused() {
        s.under("Promise 3: lay");
        s.test("if it is refused the first reason: 1: the game is over; 2: there is no such place in the hand; 3: it does not"
            + " match.", () -> {
            s.dueRefused("over", 1, Games::overByLaying, x -> x.lay(0, 0, 0));
            s.dueRefused("over by passing", 1, Games::overByPassing, x -> x.lay(0, 0, 0));
            s.dueRefused("over ahead of no such place", 1, Games::overByLaying, x -> x.lay(-1, 2, 1));
            s.dueRefused("over ahead of no match", 1, Games::overByLaying, x -> x.lay(0, 0, 1));
            for (int place : new int[] {-1, 5, MIN, MAX, 28}) {
                s.dueRefused("place " + place, 2, EdgesOfGame::aTileLaid, x -> x.lay(place, 1, 0));
                s.dueRefused("place " + place + " ahead of no match", 2, EdgesOfGame::aTileLaid, x -> x.lay(place, 0, 0));
            }
            s.dueRefused("5-6 at 4", 3, EdgesOfGame::aTileLaid, x -> x.lay(1, 0, 0));
            s.dueRefused("4-4 at 6", 3, EdgesOfGame::aTileLaid, x -> x.lay(4, 0, 1));
            s.dueRefused("0-0 at 4", 3, EdgesOfGame::aTileLaid, x -> x.lay(0, 0, 0));
            s.dueRefused("with all saved states", 2, Games::full, x -> x.lay(28, 0, 0));
            s.dueRefused("behind a pass, which is not broken", 2, EdgesOfGame::passedOnce, x -> x.lay(14, 0, 0));
        });
    }

    // ---- promise 4

    private void draw() {
        s.under("Promise 4: draw");
        s.test("The player on the move draws.", () -> {
            RustTiles x = new RustTiles();
            x.lay(0, 0, 0);
            x.draw();
            s.dueHand(x, 1, 0, 26, 13, 16, 22, 19);
            s.due("drawn by player 1", 1, x.playerOf(1, 5));
            s.due("drawn by player 0", 0, x.playerOf(0, 5));
        });
        s.test("Undoable, also if it is refused.", () -> {
            s.dueUndoable("draw", RustTiles::new, x -> x.draw());
            s.dueUndoable("the last draw", EdgesOfGame::aTileLeft, x -> x.draw());
            s.dueUndoable("draw that is refused", Games::withEmptyStock, x -> x.draw());
            s.dueUndoable("draw that is refused when over", Games::overByPassing, x -> x.draw());
        });
        s.test("Returns the tile;", () -> {
            RustTiles x = new RustTiles();
            for (int i = 10; i < 28; i++) {
                s.due("tile " + i + " of the order", Games.ORDER[i], x.draw());
            }
            s.due("behind the last one", 104, x.draw());
            RustTiles nought = new RustTiles();
            nought.begin(2, lotWithNoughtOnTop());
            s.due("the tile 0", 0, nought.draw());
        });
        s.test("if it is refused 100 and the first reason: 1: the game is over; 4: the stock is empty.", () -> {
            s.dueRefused("the stock is empty", 104, Games::withEmptyStock, x -> x.draw());
            s.dueRefused("the stock is empty behind a pass", 104, EdgesOfGame::passedOnce, x -> x.draw());
            s.dueRefused("over, with a stock", 101, Games::overByLaying, x -> x.draw());
            s.dueRefused("over ahead of no stock", 101, Games::overByPassing, x -> x.draw());
            s.due("one tile in the stock", 7, aTileLeft().draw());
        });
    }

    private static int lotWithNoughtOnTop() {
        int lot = 0;
        while (Games.orderBy(lot).get(10) != 0) {
            lot++;
        }
        return lot;
    }

    // ---- promise 5

    private void pass() {
        s.under("Promise 5: pass");
        s.test("The player on the move passes.", () -> {
            RustTiles x = Games.withEmptyStock();
            s.due("pass", 10, x.pass());
            s.due("on the move", 1, x.count(1));
            s.due("passes", 1, x.count(6));
            s.due("a turn", 19, x.count(5));
            s.due("no tile less", 14, x.playerOf(0, 0));
        });
        s.test("Undoable, also if it is refused.", () -> {
            s.dueUndoable("pass", Games::withEmptyStock, x -> x.pass());
            s.dueUndoable("the last pass", EdgesOfGame::passedOnce, x -> x.pass());
            s.dueUndoable("pass that is refused", RustTiles::new, x -> x.pass());
            s.dueUndoable("pass that is refused when over", Games::overByLaying, x -> x.pass());
        });
        s.test("Returns 10, or 11 if the game is over by it;", () -> {
            for (int players = 2; players <= 4; players++) {
                RustTiles x = Games.withEmptyStock(players);
                for (int pass = 1; pass <= players; pass++) {
                    s.due("pass " + pass + " of " + players, pass == players ? 11 : 10, x.pass());
                    s.due("passes", pass, x.count(6));
                }
            }
        });
        s.test("if it is refused the first reason: 1: the game is over; 5: there are tiles in the stock.", () -> {
            s.dueRefused("a full stock", 5, RustTiles::new, x -> x.pass());
            s.dueRefused("one tile in the stock", 5, EdgesOfGame::aTileLeft, x -> x.pass());
            s.dueRefused("over, without a stock", 1, Games::overByPassing, x -> x.pass());
            s.dueRefused("over ahead of a stock", 1, Games::overByLaying, x -> x.pass());
            s.due("no tile in the stock", 10, Games.withEmptyStock().pass());
        });
    }

    // ---- promise 6

    private void oil() {
        s.under("Promise 6: oil");
        s.test("Oils a tile of the player on the move: its turns are 0 then.", () -> {
            RustTiles x = Games.withEmptyStock();
            x.set(3);
            x.oil(0);
            s.due("its turns", 0, x.tileOf(24, 4));
            s.due("the turns of the next one", 9, x.tileOf(17, 4));
            s.due("the turns of the other one's first tile", 9, x.tileOf(0, 4));
            s.due("what rusted stays", 1, x.tileOf(24, 6));
            x.pass();
            s.due("it grows older from 0", 1, x.tileOf(24, 4));
            x.lay(0, 0, 0);
            x.oil(0);
            x.pass();
            x.lay(0, 1, 0);
            x.pass();
            s.due("oiled again, two turns", 1, x.tileOf(24, 6));
            x.lay(0, 2, 0);
            x.pass();
            s.due("it rusts by its third turn", 2, x.tileOf(24, 6));
        });
        s.test("It is no turn.", () -> {
            RustTiles x = passedOnce();
            RustTiles twin = passedOnce();
            x.oil(13);
            s.dueAlike("oil", twin, x, "count(11)", "tileOf(" + x.hand(1, 13) + ", 4)");
            s.due("on the move still", 1, x.count(1));
            s.due("the last pass", 11, x.pass());
        });
        s.test("Undoable.", () -> {
            s.dueUndoable("oil", Games::withEmptyStock, x -> x.oil(13));
            s.dueUndoable("oil of no turns", RustTiles::new, x -> x.oil(0));
            s.dueUndoable("oil when over", Games::overByLaying, x -> x.oil(0));
        });
        s.test("- `place`: its place in the hand, from 0", () -> {
            RustTiles x = Games.withEmptyStock();
            for (int place = 0; place < 14; place++) {
                s.due("place " + place, place < 6 ? 9 : 14 - place, x.oil(place));
                s.due("its turns", 0, x.tileOf(x.hand(0, place), 4));
            }
        });
        s.test("Returns how many turns old it was; NONE if the game is over.", () -> {
            RustTiles x = Games.withEmptyStock();
            s.due("nine turns old", 9, x.oil(0));
            s.due("no turns old", 0, x.oil(0));
            s.due("a turn old", 1, x.oil(13));
            s.due("no turns old at first", 0, new RustTiles().oil(4));
            for (int place : new int[] {0, -1, 5, 14, MIN, MAX}) {
                for (Sentences.Made state : new Sentences.Made[] {Games::overByLaying, Games::overByPassing}) {
                    RustTiles over = state.game();
                    s.due("oil(" + place + ") when over", -1, over.oil(place));
                    s.dueAlike("oil when over, which is not refused", state.game(), over, "count(11)");
                    s.due("a state is saved", Math.min(state.game().count(11) + 1, 6), over.count(11));
                }
            }
        });
        s.test("Throws `IndexOutOfBoundsException` if there is no such place in the hand, and the game is not over", () -> {
            for (int place : new int[] {-1, 5, MIN, MAX, 28}) {
                s.dueThrows("oil(" + place + ")", Sentences.INDEX, aTileLaid(), y -> y.oil(place));
            }
            s.dueThrows("a place that the other one's hand has", Sentences.INDEX, Games.behind("d"), y -> y.oil(5));
            s.dueThrows("a place that was there", Sentences.INDEX, Games.behind("l0a<;d"), y -> y.oil(4));
            s.due("the last place", 1, Games.behind("l0a<;d").oil(3));
            s.dueThrows("with one tile", Sentences.INDEX, Games.aTileFromTheEnd(), y -> y.oil(1));
            s.due("the one tile", 4, Games.aTileFromTheEnd().oil(0));
        });
    }

    // ---- promise 7

    private void set() {
        s.under("Promise 7: set");
        s.test("Changes the setting.", () -> {
            RustTiles x = new RustTiles();
            x.set(2);
            s.due("changed", 2, x.setting());
            Games.draw(x, 2);
            s.due("nothing rusts in a turn", 0, x.count(7));
            x.draw();
            s.due("it holds for the turns that are made", 6, x.count(7));
            RustTiles over = Games.overByLaying();
            s.due("when over", 9, over.set(4));
            s.due("changed when over", 4, over.setting());
        });
        s.test("Undoable.", () -> {
            s.dueUndoable("set", RustTiles::new, x -> x.set(9));
            s.dueUndoable("set to the same", RustTiles::new, x -> x.set(3));
            s.dueUndoable("set with all saved states", Games::full, x -> x.set(1));
        });
        s.test("- `value`: 1 to 9", () -> {
            RustTiles x = new RustTiles();
            for (int value = 1; value <= 9; value++) {
                x.set(value);
                s.due("set(" + value + ")", value, x.setting());
            }
        });
        s.test("Returns the previous value.", () -> {
            RustTiles x = new RustTiles();
            s.due("at first", 3, x.set(9));
            s.due("the greatest", 9, x.set(1));
            s.due("the least", 1, x.set(1));
            s.due("the same", 1, x.set(5));
        });
        s.test("Throws `IllegalArgumentException` if value is out of range", () -> {
            for (int value : new int[] {0, 10, -1, MIN, MAX}) {
                s.dueThrows("set(" + value + ")", Sentences.ARGUMENT, Games.full(), y -> y.set(value));
            }
        });
    }
}
