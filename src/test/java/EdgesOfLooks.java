/** The boundary cases that promises 15 to 21 name: tileOf, hand, stock, playerOf, rowOf, count, setting. */
final class EdgesOfLooks {
    private static final int MIN = Sentences.MIN;
    private static final int MAX = Sentences.MAX;

    private final Sentences s;

    EdgesOfLooks(Sentences s) {
        this.s = s;
    }

    void all() {
        tileOf();
        tileProperties();
        hand();
        stock();
        playerOf();
        endsOfPlayer();
        rowOf();
        count();
        countTurnsAndSaved();
        setting();
    }

    // ---- promise 15

    private void tileOf() {
        s.under("Promise 15: tileOf");
        s.test("Returns a property of a tile.", () -> {
            RustTiles x = Games.full();
            s.due("the same again", x.tileOf(26, 1), x.tileOf(26, 1));
            s.due("the same tile in another object", 6, new RustTiles().tileOf(26, 1));
        });
        s.test("- `tile`: 0 to 27", () -> {
            RustTiles x = new RustTiles();
            for (int what = 0; what < 7; what++) {
                int[] first = {0, 0, 1, 1, 0, -1, 0};
                int[] last = {6, 6, 0, -1, 0, -1, 0};
                s.due("tileOf(0, " + what + ")", first[what], x.tileOf(0, what));
                s.due("tileOf(27, " + what + ")", last[what], x.tileOf(27, what));
            }
        });
        s.test("Returns the property.", () -> {
            RustTiles x = Games.with(1);
            x.draw();
            int[] wants = {3, 3, 1, 0, 1, -1, 1};
            for (int what = 0; what < 7; what++) {
                s.due("tileOf(19, " + what + ")", wants[what], x.tileOf(19, what));
            }
        });
        s.test("Throws `IndexOutOfBoundsException` if there is no such tile", () -> {
            for (int tile : new int[] {-1, 28, MIN, MAX}) {
                s.dueThrows("tile " + tile, Sentences.INDEX, Games.full(), y -> y.tileOf(tile, 0));
                s.dueThrows("tile " + tile + " ahead of what", Sentences.INDEX, Games.full(), y -> y.tileOf(tile, 7));
            }
        });
        s.test("Throws `IllegalArgumentException` if what is not 0 to 6", () -> {
            for (int what : new int[] {-1, 7, MIN, MAX}) {
                s.dueThrows("what " + what, Sentences.ARGUMENT, Games.full(), y -> y.tileOf(0, what));
                s.dueThrows("what " + what + " of the last tile", Sentences.ARGUMENT, Games.full(), y -> y.tileOf(27, what));
            }
        });
    }

    private void tileProperties() {
        s.under("Promise 15: tileOf");
        s.test("0: the grade of its first half, 1: of its second half, as they are now;", () -> {
            RustTiles x = Games.with(1);
            s.dueGrades(x, 22, 4, 4);
            Games.draw(x, 2);
            s.dueGrades(x, 22, 3, 4);
            s.dueGrades(x, 26, 5, 5);
            s.dueGrades(x, 0, 0, 0);
            s.dueGrades(x, 27, 6, 6);
        });
        s.test("2: 0 in the stock, 1 in a hand, 2 laid;", () -> {
            RustTiles x = new RustTiles();
            s.due("in the stock", 0, x.tileOf(19, 2));
            s.due("in a hand", 1, x.tileOf(24, 2));
            x.lay(0, 0, 0);
            s.due("laid", 2, x.tileOf(24, 2));
            x.draw();
            s.due("drawn", 1, x.tileOf(19, 2));
            x.begin(2, 1);
            s.due("in the stock again", 0, x.tileOf(19, 2));
            s.due("in a hand again", 1, x.tileOf(24, 2));
        });
        s.test("3: the player who has it, or laid it, NONE in the stock;", () -> {
            RustTiles x = Games.begun(4);
            s.due("the first player's", 0, x.tileOf(24, 3));
            s.due("the last player's", 3, x.tileOf(10, 3));
            s.due("in the stock", -1, x.tileOf(8, 3));
            x.lay(0, 0, 0);
            s.due("laid by the first player", 0, x.tileOf(24, 3));
            Games.draw(x, 2);
            x.lay(0, 1, 0);
            s.due("laid by the last player", 3, x.tileOf(21, 3));
            s.due("drawn by player 1", 1, x.tileOf(8, 3));
        });
        s.test("4: its turns in the hand (those of the laying, if it is laid; 0 in the stock);", () -> {
            RustTiles x = Games.behind("d;d;d;d;d;d");
            s.due("in the hand", 3, x.tileOf(24, 4));
            s.due("drawn first", 3, x.tileOf(19, 4));
            s.due("drawn last", 1, x.tileOf(21, 4));
            s.due("in the stock", 0, x.tileOf(27, 4));
            x.lay(0, 0, 0);
            s.due("those of the laying", 3, x.tileOf(24, 4));
            Games.draw(x, 6);
            s.due("those of the laying still", 3, x.tileOf(24, 4));
            x.begin(2, 1);
            s.due("begun again", 0, x.tileOf(24, 4));
            RustTiles oiled = Games.behind("d;d");
            oiled.oil(0);
            s.due("oiled", 0, oiled.tileOf(24, 4));
            oiled.lay(0, 0, 0);
            s.due("laid when just oiled", 0, oiled.tileOf(24, 4));
        });
        s.test("5: its row, NONE if it is not laid;", () -> {
            for (int row = 0; row < 3; row++) {
                RustTiles x = new RustTiles();
                s.due("in the hand", -1, x.tileOf(24, 5));
                s.due("in the stock", -1, x.tileOf(19, 5));
                x.lay(0, row, 0);
                s.due("its row", row, x.tileOf(24, 5));
                x.begin(2, 1);
                s.due("begun again", -1, x.tileOf(24, 5));
            }
        });
        s.test("6: grades that rusted away from it in this game", () -> {
            RustTiles x = Games.rustedAway();
            int tile = 0;
            for (int a = 0; a <= 6; a++) {
                for (int b = a; b <= 6; b++) {
                    s.due("all of " + tile, a + b, x.tileOf(tile, 6));
                    tile++;
                }
            }
            x.begin(2, 0);
            for (tile = 0; tile < 28; tile++) {
                s.due("none of " + tile + " in this game", 0, x.tileOf(tile, 6));
            }
        });
    }

    // ---- promise 16

    private void hand() {
        s.under("Promise 16: hand");
        s.test("Returns a tile of a hand; a tile that is drawn comes behind the others.", () -> {
            RustTiles x = new RustTiles();
            x.draw();
            s.dueHand(x, 0, 24, 17, 20, 4, 2, 19);
            x.lay(2, 0, 0);
            s.dueHand(x, 1, 0, 26, 16, 22);
            x.lay(5, 1, 0);
            s.dueHand(x, 0, 24, 17, 20, 4, 2);
            x.draw();
            s.dueHand(x, 1, 0, 26, 16, 22, 9);
            x.lay(0, 2, 0);
            s.dueHand(x, 0, 17, 20, 4, 2);
            x.draw();
            x.draw();
            s.dueHand(x, 0, 17, 20, 4, 2, 23);
        });
        s.test("- `player`: 0 to the number of the last player of this game", () -> {
            RustTiles x = Games.begun(4);
            s.due("the last of four", 21, x.hand(3, 0));
            x.begin(3, 1);
            s.due("the last of three", 19, x.hand(2, 0));
            x.begin(2, 1);
            s.due("the last of two", 0, x.hand(1, 0));
        });
        s.test("- `place`: its place, from 0", () -> {
            RustTiles x = new RustTiles();
            s.due("the first", 24, x.hand(0, 0));
            s.due("the last", 2, x.hand(0, 4));
            s.due("the last of 14", 7, Games.withEmptyStock().hand(1, 13));
        });
        s.test("Returns the tile; NONE if there are not so many.", () -> {
            RustTiles x = new RustTiles();
            s.due("tile 0", 0, x.hand(1, 0));
            s.due("behind the last", -1, x.hand(0, 5));
            s.due("far behind", -1, x.hand(0, 28));
            s.due("as far as can be", -1, x.hand(1, MAX));
            x.lay(4, 0, 0);
            s.due("where the last one was", -1, x.hand(0, 4));
            s.due("behind 14", -1, Games.withEmptyStock().hand(0, 14));
            s.due("of a hand without tiles", -1, Games.overByLaying().hand(0, 0));
            s.due("the one tile", 20, Games.aTileFromTheEnd().hand(0, 0));
            s.due("behind the one tile", -1, Games.aTileFromTheEnd().hand(0, 1));
        });
        s.test("Throws `IndexOutOfBoundsException` if there is no such player in this game", () -> {
            dueNoPlayer("hand", (x, player) -> x.hand(player, 0));
            dueNoPlayer("hand ahead of the place", (x, player) -> x.hand(player, -1));
            dueNoPlayer("hand far behind", (x, player) -> x.hand(player, MAX));
        });
        s.test("Throws `IllegalArgumentException` if place is below 0", () -> {
            s.dueThrows("hand(0, -1)", Sentences.ARGUMENT, Games.full(), y -> y.hand(0, -1));
            s.dueThrows("hand(1, -1)", Sentences.ARGUMENT, Games.full(), y -> y.hand(1, -1));
            s.dueThrows("hand(0, MIN)", Sentences.ARGUMENT, new RustTiles(), y -> y.hand(0, MIN));
            s.dueThrows("of a hand without tiles", Sentences.ARGUMENT, Games.overByLaying(), y -> y.hand(0, -1));
        });
    }

    interface OfPlayer {
        long of(RustTiles x, int player);
    }

    private void dueNoPlayer(String what, OfPlayer call) {
        for (int players = 2; players <= 4; players++) {
            RustTiles x = Games.begun(players);
            for (int player : new int[] {-1, players, players + 1, MIN, MAX}) {
                s.dueThrows(what + " of player " + player + " of " + players, Sentences.INDEX, x, y -> call.of(y, player));
            }
        }
        RustTiles fewer = Games.begun(4);
        fewer.begin(2, 1);
        s.dueThrows(what + " of a player of an earlier game", Sentences.INDEX, fewer, y -> call.of(y, 2));
        RustTiles over = Games.overByPassing();
        s.dueThrows(what + " when over", Sentences.INDEX, over, y -> call.of(y, 2));
    }

    // ---- promise 17

    private void stock() {
        s.under("Promise 17: stock");
        s.test("Returns a tile of the stock.", () -> {
            RustTiles x = new RustTiles();
            for (int place = 0; place < 18; place++) {
                s.due("stock(" + place + ")", Games.ORDER[10 + place], x.stock(place));
            }
            x.draw();
            for (int place = 0; place < 17; place++) {
                s.due("stock(" + place + ") behind a draw", Games.ORDER[11 + place], x.stock(place));
            }
        });
        s.test("- `place`: from 0 for the first one", () -> {
            RustTiles x = new RustTiles();
            for (int i = 0; i < 18; i++) {
                s.due("the first one is drawn next", x.stock(0), x.draw());
            }
        });
        s.test("Returns the tile; NONE if there are not so many.", () -> {
            RustTiles x = new RustTiles();
            s.due("the last", 7, x.stock(17));
            s.due("behind the last", -1, x.stock(18));
            s.due("as far as all tiles", -1, x.stock(28));
            s.due("as far as can be", -1, x.stock(MAX));
            x.draw();
            s.due("where the last one was", -1, x.stock(17));
            s.due("of four players", 7, Games.begun(4).stock(7));
            s.due("behind the last of four players", -1, Games.begun(4).stock(8));
            s.due("of an empty stock", -1, Games.withEmptyStock().stock(0));
        });
        s.test("Throws `IllegalArgumentException` if place is below 0", () -> {
            s.dueThrows("stock(-1)", Sentences.ARGUMENT, Games.full(), y -> y.stock(-1));
            s.dueThrows("stock(MIN)", Sentences.ARGUMENT, new RustTiles(), y -> y.stock(MIN));
            s.dueThrows("of an empty stock", Sentences.ARGUMENT, Games.withEmptyStock(), y -> y.stock(-1));
        });
    }

    // ---- promise 18

    private void duePlayer(RustTiles x, int player, int... wants) {
        for (int what = 0; what < wants.length; what++) {
            s.due("playerOf(" + player + ", " + what + ")", wants[what], x.playerOf(player, what));
        }
    }

    private void playerOf() {
        s.under("Promise 18: playerOf");
        s.test("Returns a property of a player.", () -> {
            duePlayer(new RustTiles(), 0, 5, 32, 0, 32, 0, 0, 3);
            duePlayer(new RustTiles(), 1, 5, 30, 0, 30, 0, 0, 3);
        });
        s.test("- `player`: 0 to the number of the last player of this game", () -> {
            for (int players = 2; players <= 4; players++) {
                RustTiles x = Games.begun(players);
                s.due("the first", 32, x.playerOf(0, 1));
                int[] grades = {30, 33, 37};
                s.due("the last of " + players, grades[players - 2], x.playerOf(players - 1, 1));
            }
        });
        s.test("0: tiles in the hand; 1: the grades of these;", () -> {
            RustTiles x = Games.with(1);
            x.draw();
            duePlayer(x, 0, 6, 33);
            x.lay(1, 0, 0);
            duePlayer(x, 1, 4, 16);
            duePlayer(Games.overByLaying(), 0, 0, 0);
            duePlayer(Games.rustedAway(), 0, 14, 0);
            duePlayer(Games.withEmptyStock(), 1, 14, 72);
        });
        s.test("2: grades lost so far in this game; 3: the sum;", () -> {
            RustTiles x = Games.with(1);
            x.draw();
            duePlayer(x, 0, 6, 33, 6, 39);
            duePlayer(x, 1, 5, 30, 0, 30);
            RustTiles away = Games.rustedAway();
            s.due("all that is lost", 168, away.playerOf(0, 2) + away.playerOf(1, 2));
            s.due("the sum of nothing but that", away.playerOf(1, 2), away.playerOf(1, 3));
            away.begin(2, 1);
            duePlayer(away, 0, 5, 32, 0, 32);
        });
        s.test("4: tiles laid so far in this game; 5: tiles drawn so far in this game;", () -> {
            RustTiles x = Games.overByLaying();
            duePlayer(x, 0, 0, 0, 0, 0, 5, 0);
            s.due("drawn by player 1", 4, x.playerOf(1, 5));
            s.due("laid by player 1", 0, x.playerOf(1, 4));
            x.draw();
            s.due("a draw that is refused", 4, x.playerOf(1, 5));
            x.lay(0, 0, 0);
            s.due("a lay that is refused", 5, x.playerOf(0, 4));
            x.begin(2, 1);
            duePlayer(x, 0, 5, 32, 0, 32, 0, 0);
            s.due("the tiles dealt are not drawn", 0, x.playerOf(1, 5));
        });
        s.test("Returns the property.", () -> {
            RustTiles x = Games.behind("d;l0a<;l1b>");
            duePlayer(x, 0, 5, 31, 0, 31, 1, 1, 5);
            duePlayer(x, 1, 4, 30, 0, 30, 1, 0, 3);
        });
        s.test("Throws `IndexOutOfBoundsException` if there is no such player in this game", () -> {
            dueNoPlayer("playerOf", (x, player) -> x.playerOf(player, 0));
            dueNoPlayer("playerOf ahead of what", (x, player) -> x.playerOf(player, 7));
            dueNoPlayer("playerOf with ends", (x, player) -> x.playerOf(player, 6));
        });
        s.test("Throws `IllegalArgumentException` if what is not 0 to 6", () -> {
            for (int what : new int[] {-1, 7, MIN, MAX}) {
                s.dueThrows("what " + what, Sentences.ARGUMENT, Games.full(), y -> y.playerOf(0, what));
            }
        });
    }

    private void endsOfPlayer() {
        s.under("Promise 18: playerOf");
        s.test("6: ends, rows without tiles told once, at which this player could lay a tile, as if on the move (also if the game is"
            + " over): how many", () -> {
            RustTiles x = Games.with(9);
            s.due("three empty rows, each once", 3, x.playerOf(0, 6));
            s.due("likewise of the one who is not on the move", 3, x.playerOf(1, 6));
            x.lay(0, 0, 0);
            s.due("4, 6 and two empty rows", 4, x.playerOf(0, 6));
            x.lay(0, 1, 0);
            s.due("4, 6, twice 0 and an empty row", 5, x.playerOf(0, 6));
            s.due("4, 6 and an empty row, as there is no 0", 3, x.playerOf(1, 6));
            x.lay(1, 2, 0);
            // The rows are open with 4 6, 0 0 and 3 5; player 0 has 2-6 0-4 0-2, player 1 5-6 2-2 2-5 4-4.
            s.due("4, 6, twice 0", 4, x.playerOf(0, 6));
            s.due("4, 6, 5", 3, x.playerOf(1, 6));
            s.due("all six ends", 6, Games.rustedAway().playerOf(0, 6) + 2);
            RustTiles over = Games.overByLaying();
            s.due("a hand without tiles, with an empty row", 0, over.playerOf(0, 6));
            s.due("when over, open with 4 4 3 5 and empty", 5, over.playerOf(1, 6));
            s.due("over without rows", 3, Games.overByPassing().playerOf(0, 6));
            RustTiles none = Games.behind("l4a<;l0b<;l3c<;d;l0c>;d;l0a>;d");
            // The rows are open with 0 6, 0 0 and 0 6; player 0 has 3-5, player 1 no 0, and 5-6.
            s.due("none", 0, none.playerOf(0, 6));
            s.due("one end of each of two rows", 2, none.playerOf(1, 6));
        });
    }

    // ---- promise 19

    private void rowOf() {
        s.under("Promise 19: rowOf");
        s.test("Returns a property of a row.", () -> {
            RustTiles x = new RustTiles();
            x.lay(0, 1, 0);
            s.dueRow(x, 0, 0, -1, -1, -1);
            s.dueRow(x, 1, 1, 4, 6, 24);
            s.dueRow(x, 2, 0, -1, -1, -1);
        });
        s.test("- `row`: 0 to 2", () -> {
            for (int row = 0; row <= 2; row++) {
                RustTiles x = new RustTiles();
                s.due("no tiles", 0, x.rowOf(row, 0));
                x.lay(0, row, 0);
                s.due("a tile", 1, x.rowOf(row, 0));
            }
        });
        s.test("0: its tiles; 1: the grade with which the end 0 is open, 2: likewise the end 1, NONE without tiles;", () -> {
            RustTiles x = Games.behind("d;l0c<");
            s.dueRow(x, 2, 1, 0, 0, 0);
            x.lay(3, 2, 1);
            s.dueRow(x, 2, 2, 0, 4, 4);
            x.lay(3, 2, 1);
            s.dueRow(x, 2, 3, 0, 4, 22);
            s.due("without tiles, end 0", -1, x.rowOf(0, 1));
            s.due("without tiles, end 1", -1, x.rowOf(1, 2));
            RustTiles long9 = Games.rustedAway();
            s.due("nine tiles", 9, long9.rowOf(0, 0));
            s.due("open with 0", 0, long9.rowOf(0, 1));
        });
        s.test("3: the tile laid last at it, NONE without tiles", () -> {
            RustTiles x = Games.behind("d;l0c<");
            s.due("without tiles", -1, x.rowOf(0, 3));
            s.due("the tile 0", 0, x.rowOf(2, 3));
            x.lay(3, 2, 0);
            s.due("laid at the end 0", 4, x.rowOf(2, 3));
            x.lay(0, 1, 0);
            s.due("laid last at this row", 4, x.rowOf(2, 3));
        });
        s.test("Returns the property.", () -> {
            RustTiles over = Games.overByLaying();
            s.dueRow(over, 0, 4, 4, 4, 4);
            s.dueRow(over, 1, 1, 3, 5, 20);
            s.dueRow(over, 2, 0, -1, -1, -1);
        });
        s.test("Throws `IndexOutOfBoundsException` if there is no such row", () -> {
            for (int row : new int[] {-1, 3, MIN, MAX}) {
                s.dueThrows("row " + row, Sentences.INDEX, Games.full(), y -> y.rowOf(row, 0));
                s.dueThrows("row " + row + " ahead of what", Sentences.INDEX, Games.full(), y -> y.rowOf(row, 4));
            }
        });
        s.test("Throws `IllegalArgumentException` if what is not 0 to 3", () -> {
            for (int what : new int[] {-1, 4, MIN, MAX}) {
                for (int row = 0; row < 3; row++) {
                    int theRow = row;
                    s.dueThrows("what " + what, Sentences.ARGUMENT, Games.full(), y -> y.rowOf(theRow, what));
                }
            }
        });
    }

    // ---- promise 20

    private void count() {
        s.under("Promise 20: count");
        s.test("Returns a number.", () -> s.dueCounts(new RustTiles(), 2, 0, 18, 10, 0, 0, 0, 0, -1, 0, 6605, 0));
        s.test("0: players; 1: the player on the move, NONE if the game is over;", () -> {
            for (int players = 2; players <= 4; players++) {
                RustTiles x = Games.begun(players);
                s.due("players", players, x.count(0));
                for (int turn = 0; turn < 5; turn++) {
                    s.due("on the move", turn % players, x.count(1));
                    x.draw();
                }
            }
            s.due("over by laying", -1, Games.overByLaying().count(1));
            s.due("over by passing", -1, Games.overByPassing().count(1));
        });
        s.test("2: tiles in the stock; 3: tiles in hands; 4: tiles laid;", () -> {
            s.dueCounts(Games.begun(4), 4, 0, 8, 20, 0);
            s.dueCounts(Games.withEmptyStock(), 2, 0, 0, 28, 0);
            s.dueCounts(Games.overByLaying(), 2, -1, 14, 9, 5);
            s.dueCounts(Games.rustedAway(), 2, 0, 0, 19, 9);
        });
        s.test("7: grades lost of all players in this game;", () -> {
            RustTiles x = Games.begun(3);
            x.set(1);
            Games.draw(x, 3);
            s.due("of three", x.playerOf(0, 2) + x.playerOf(1, 2) + x.playerOf(2, 2), x.count(7));
            s.due("6, 5 and 6", 17, x.count(7));
            x.begin(3, 1);
            s.due("none in this game", 0, x.count(7));
            s.due("all there are", 168, Games.rustedAway().count(7));
        });
        s.test("8: the winner, NONE if the game is not over;", () -> {
            s.due("at first", -1, new RustTiles().count(8));
            s.due("ahead of the last tile", -1, Games.aTileFromTheEnd().count(8));
            s.due("behind the last tile", 0, Games.overByLaying().count(8));
            RustTiles x = Games.withEmptyStock();
            x.pass();
            s.due("ahead of the last pass", -1, x.count(8));
            x.pass();
            s.due("behind the last pass", 1, x.count(8));
            x.undo();
            s.due("undone", -1, x.count(8));
        });
        s.test("10: the lot;", () -> {
            s.due("behind the lot 1", 6605, new RustTiles().count(10));
            RustTiles x = new RustTiles();
            x.begin(2, 0);
            s.due("behind the lot 0", 7644, x.count(10));
            x.draw();
            s.due("turns draw no lots", 7644, x.count(10));
        });
        s.test("Throws `IllegalArgumentException` if what is not 0 to 11", () -> {
            for (int what : new int[] {-1, 12, MIN, MAX}) {
                s.dueThrows("count(" + what + ")", Sentences.ARGUMENT, Games.full(), y -> y.count(what));
            }
        });
    }

    private void countTurnsAndSaved() {
        s.under("Promise 20: count");
        s.test("5: turns so far in this game; 6: passes one behind the other now;", () -> {
            RustTiles x = Games.withEmptyStock();
            s.due("turns", 18, x.count(5));
            s.due("no passes", 0, x.count(6));
            x.pass();
            s.due("a pass is a turn", 19, x.count(5));
            s.due("a pass", 1, x.count(6));
            x.draw();
            x.oil(0);
            s.due("what is refused is no turn", 19, x.count(5));
            s.due("and breaks no passes", 1, x.count(6));
            x.lay(0, 0, 0);
            s.due("a lay is a turn", 20, x.count(5));
            s.due("and breaks passes", 0, x.count(6));
            x.pass();
            x.pass();
            s.due("all passes stay told when over", 2, x.count(6));
            x.pass();
            s.due("a pass refused is not told", 2, x.count(6));
            x.begin(2, 1);
            s.due("no turns in this game", 0, x.count(5));
            s.due("no passes in this game", 0, x.count(6));
        });
        s.test("9: what was refused so far (also in earlier games);", () -> {
            RustTiles x = new RustTiles();
            x.pass();
            x.lay(-1, 0, 0);
            s.due("two", 2, x.count(9));
            x.begin(4, 1);
            s.due("two in earlier games", 2, x.count(9));
            x.lay(5, 0, 0);
            s.due("three", 3, x.count(9));
            x.whyNot(5, 0, 0);
            s.dueThrows("a call that throws", Sentences.INDEX, x, y -> y.oil(5));
            s.dueThrows("another", Sentences.ARGUMENT, x, y -> y.set(0));
            s.due("nothing else is refused", 3, x.count(9));
            RustTiles over = Games.overByLaying();
            over.oil(0);
            s.due("oil when over is not refused", 0, over.count(9));
            over.draw();
            over.lay(0, 0, 0);
            over.pass();
            s.due("a draw, a lay and a pass when over", 3, over.count(9));
            over.undo();
            s.due("what is undone is not counted", 2, over.count(9));
        });
        s.test("11: saved states", () -> {
            RustTiles x = new RustTiles();
            for (int saved = 0; saved <= 6; saved++) {
                s.due("saved", saved, x.count(11));
                x.draw();
            }
            s.due("no more than six", 6, x.count(11));
            x.begin(2, 1);
            s.due("a game begun leaves them", 6, x.count(11));
            x.undo();
            s.due("one less", 5, x.count(11));
            x.keep(0);
            s.due("a snapshot is none", 5, x.count(11));
            x.goBack(0);
            s.due("goBack saves one", 6, x.count(11));
        });
        s.test("Returns the number.", () -> s.dueCounts(Games.overByPassing(), 2, -1, 0, 28, 0, 20, 2, 13, 1, 0, 6605, 6));
    }

    // ---- promise 21

    private void setting() {
        s.under("Promise 21: setting");
        s.test("Returns the setting.", () -> s.due("at first", 3, new RustTiles().setting()));
        s.test("Returns its value.", () -> {
            s.due("the least", 1, Games.with(1).setting());
            s.due("the greatest", 9, Games.with(9).setting());
            RustTiles x = Games.with(9);
            x.undo();
            s.due("undone", 3, x.setting());
            s.dueThrows("not set", Sentences.ARGUMENT, x, y -> y.set(10));
            s.due("stays", 3, x.setting());
        });
    }
}
