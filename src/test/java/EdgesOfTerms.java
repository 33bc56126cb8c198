import java.util.ArrayList;
import java.util.Arrays;
import java.util.List;

/** The boundary cases that the document names above its promises. */
final class EdgesOfTerms {
    private static final int MIN = Sentences.MIN;
    private static final int MAX = Sentences.MAX;
    private static final int LOTS = 10000;

    private final Sentences s;

    EdgesOfTerms(Sentences s) {
        this.s = s;
    }

    void all() {
        whatItIs();
        terms();
        tiles();
        beginning();
        orderOfTheStock();
        rows();
        turns();
        rust();
        theEnd();
        sumAndWinner();
        trains();
        settings();
        inputText();
        snapshots();
        undo();
        exceptions();
        faces();
    }

    // ---- what it is

    private void whatItIs() {
        s.under("What it is");
        s.test("An object is used for at most 512 calls after it has been made; what later calls answer is free.", () -> {
            RustTiles x = new RustTiles();
            for (int i = 0; i < 511; i++) {
                x.pass();
            }
            s.due("the 512th call", 511, x.count(9));
            RustTiles y = new RustTiles();
            for (int i = 0; i < 255; i++) {
                y.draw();
                y.undo();
            }
            y.draw();
            s.due("the 512th call behind as many undone", 9, y.draw());
            RustTiles z = Games.full();
            z.clearBuffer();
            for (int i = 0; i < 236; i++) {
                z.append('d');
                z.run();
            }
            s.due("a snapshot kept long ago", 0, z.goBack(1));
        });
    }

    private void terms() {
        s.under("Terms");
        s.test("All numbers are integers, but for a share; divisions are rounded down.", () -> {
            RustTiles x = Games.with(1);
            x.draw();
            s.due("a share is not rounded", Double.doubleToLongBits(6.0 / 168), Double.doubleToLongBits(x.rustShare()));
        });
    }

    // ---- tiles

    private void tiles() {
        s.under("Tiles");
        s.test("A tile has two halves, the first one and the second one, each with a grade, 0 to 6.", () -> {
            RustTiles x = new RustTiles();
            s.dueGrades(x, 0, 0, 0);
            s.dueGrades(x, 27, 6, 6);
            RustTiles rusted = Games.rustedAway();
            for (int tile = 0; tile < 28; tile++) {
                s.dueGrades(rusted, tile, 0, 0);
            }
        });
        s.test("There are 28 tiles, numbered from 0: with a from 0 to 6, and for each a with b from a to 6, a tile whose first half"
            + " is a, and whose second half is b, at the beginning of a game.", () -> {
            RustTiles again = Games.rustedAway();
            again.begin(4, 9);
            for (RustTiles x : new RustTiles[] {new RustTiles(), again}) {
                int tile = 0;
                for (int a = 0; a <= 6; a++) {
                    for (int b = a; b <= 6; b++) {
                        s.dueGrades(x, tile, a, b);
                        tile++;
                    }
                }
                s.due("tiles", 28, tile);
                s.dueThrows("a tile before the first", Sentences.INDEX, x, y -> y.tileOf(-1, 0));
                s.dueThrows("a tile behind the last", Sentences.INDEX, x, y -> y.tileOf(28, 0));
            }
        });
        s.test("A tile is in the stock (0), in a hand (1), or laid (2).", () -> {
            dueWhere(new RustTiles(), 18, 10, 0);
            dueWhere(Games.begun(4), 8, 20, 0);
            dueWhere(Games.withEmptyStock(), 0, 28, 0);
            dueWhere(Games.overByLaying(), 14, 9, 5);
            dueWhere(Games.rustedAway(), 0, 19, 9);
        });
    }

    private void dueWhere(RustTiles x, int inStock, int inHands, int laid) {
        int[] wants = {inStock, inHands, laid};
        int[] found = new int[3];
        for (int tile = 0; tile < 28; tile++) {
            found[x.tileOf(tile, 2)]++;
        }
        for (int where = 0; where < 3; where++) {
            s.due("tiles that are at " + where, wants[where], found[where]);
        }
    }

    // ---- beginning

    private void beginning() {
        s.under("Beginning");
        s.test("A game has 2 to 4 players, numbered from 0, and a lot x.", () -> {
            for (int players = 2; players <= 4; players++) {
                RustTiles x = Games.begun(players);
                s.due("players", players, x.count(0));
                s.due("the first player", 5, x.playerOf(0, 0));
                s.due("the last player", 5, x.playerOf(players - 1, 0));
                int behind = players;
                s.dueThrows("the player behind the last", Sentences.INDEX, x, y -> y.playerOf(behind, 0));
                s.dueThrows("the player before the first", Sentences.INDEX, x, y -> y.playerOf(-1, 0));
            }
            s.dueThrows("1 player", Sentences.ARGUMENT, new RustTiles(), y -> y.begin(1, 1));
            s.dueThrows("5 players", Sentences.ARGUMENT, new RustTiles(), y -> y.begin(5, 1));
        });
        s.test("To draw a lot makes x (x * 421 + 1663) modulo 10000; what is drawn is the x behind it.", () -> {
            for (int lot = 0; lot < LOTS; lot++) {
                RustTiles x = new RustTiles();
                x.begin(2 + lot % 3, lot);
                int want = lot;
                for (int tile = 0; tile < 28; tile++) {
                    want = Games.drawn(want);
                }
                s.due("the lot behind " + lot, want, x.count(10));
            }
            int nought = lotBefore(0);
            RustTiles first = new RustTiles();
            first.begin(2, nought);
            s.due("the lot 0 comes first", 0, first.hand(0, 0));
            RustTiles last = new RustTiles();
            last.begin(2, lotBefore(9999));
            s.due("the lot 9999 comes last", 0, last.stock(17));
            RustTiles around = new RustTiles();
            around.begin(2, 9999);
            s.due("the first lot behind 9999 is 1242", Games.drawn(9999), 1242);
            s.due("the place of the tile with 1242", 0, around.hand(0, Games.orderBy(9999).indexOf(0)));
        });
        s.test("At the beginning a lot is drawn for each tile, by ascending numbers;", () -> {
            RustTiles x = new RustTiles();
            x.begin(2, lotBefore(lotBefore(0)));
            s.due("the second lot is that of tile 1", 1, x.hand(0, 0));
            int before = 0;
            for (int i = 0; i < 28; i++) {
                before = lotBefore(before);
            }
            x.begin(2, before);
            s.due("the last lot is that of tile 27", 27, x.hand(0, 0));
            s.due("no lot is drawn behind it", 0, x.count(10));
        });
        s.test("Then the first player gets the first five tiles of it, the next player the next five, and so on.", () -> {
            for (int players = 2; players <= 4; players++) {
                RustTiles x = Games.begun(players);
                for (int player = 0; player < players; player++) {
                    s.dueHand(x, player, Arrays.copyOfRange(Games.ORDER, 5 * player, 5 * player + 5));
                }
                int left = 28 - 5 * players;
                s.due("the first of the stock", Games.ORDER[5 * players], x.stock(0));
                s.due("the last of the stock", 7, x.stock(left - 1));
                s.due("behind the stock", -1, x.stock(left));
            }
        });
        s.test("The player 0 is on the move.", () -> {
            RustTiles x = new RustTiles();
            s.due("at first", 0, x.count(1));
            x.draw();
            x.begin(4, 0);
            s.due("behind a game that was going on", 0, x.count(1));
            RustTiles over = Games.overByPassing();
            over.begin(2, 0);
            s.due("behind a game that was over", 0, over.count(1));
        });
        s.test("At first a game is begun with 2 players and the lot 1.", () ->
            s.dueAlike("begin(2, 1)", Games.begun(2), new RustTiles(), "count(11)"));
    }

    private static int lotBefore(int lot) {
        int x = 0;
        while (Games.drawn(x) != lot) {
            x++;
        }
        return x;
    }

    private void orderOfTheStock() {
        s.under("Beginning");
        // 421 and 1663 let the lots come round to an x by 10000 drawings alone, so that no two of 28 are alike.
        s.test("the tiles with the least lots come first, of several the lowest: this is the order of the stock.", () -> {
            int seen = 0;
            int x = 0;
            do {
                x = Games.drawn(x);
                seen++;
            } while (x != 0 && seen < 2 * LOTS);
            s.due("no two lots of a game are alike", LOTS, seen);
            for (int lot = 0; lot < LOTS; lot++) {
                dueOrder(lot);
            }
        });
    }

    private void dueOrder(int lot) {
        RustTiles x = new RustTiles();
        x.begin(2, lot);
        List<Integer> found = new ArrayList<>();
        for (int i = 0; i < 28; i++) {
            found.add(i < 10 ? x.hand(i / 5, i % 5) : x.stock(i - 10));
        }
        s.due("the order by the lot " + lot + ": " + found, 1, found.equals(Games.orderBy(lot)) ? 1 : 0);
    }

    // ---- rows

    private void rows() {
        s.under("Rows");
        s.test("There are 3 rows, numbered from 0, at first without tiles.", () -> {
            RustTiles x = new RustTiles();
            for (int row = 0; row < 3; row++) {
                s.dueRow(x, row, 0, -1, -1, -1);
            }
            s.due("the last row", 10, x.lay(0, 2, 0));
            s.dueRow(x, 2, 1, 4, 6, 24);
            s.dueThrows("the row behind the last", Sentences.INDEX, x, y -> y.lay(0, 3, 0));
            s.dueThrows("the row before the first", Sentences.INDEX, x, y -> y.lay(0, -1, 0));
            x.begin(2, 1);
            s.dueRow(x, 2, 0, -1, -1, -1);
        });
        s.test("A row has two ends, 0 and 1; behind the first tile of a row the end 0 is open with the grade of its first half, the"
            + " end 1 with that of its second half.", () -> {
            for (int end = 0; end < 2; end++) {
                for (int row = 0; row < 3; row++) {
                    RustTiles x = new RustTiles();
                    x.lay(1, row, end);
                    s.dueRow(x, row, 1, 2, 6, 17);
                }
            }
            s.dueThrows("the end behind the last", Sentences.ARGUMENT, new RustTiles(), y -> y.lay(0, 0, 2));
            s.dueThrows("the end before the first", Sentences.ARGUMENT, new RustTiles(), y -> y.lay(0, 0, -1));
            RustTiles alike = Games.behind("d;l2a>");
            s.dueRow(alike, 0, 1, 2, 2, 13);
            RustTiles rusted = Games.with(1);
            Games.draw(rusted, 2);
            rusted.lay(0, 0, 0);
            s.dueRow(rusted, 0, 1, 4, 5, 24);
        });
        s.test("A tile can be laid at an end of a row: if the row has no tile yet, always (the end does not matter then);", () -> {
            RustTiles x = new RustTiles();
            x.lay(0, 1, 0);
            for (int place = 0; place < 5; place++) {
                for (int end = 0; end < 2; end++) {
                    s.due("an empty row", 0, x.whyNot(place, 0, end));
                    s.due("another empty row", 0, x.whyNot(place, 2, end));
                }
            }
            s.due("not so the row with a tile", 3, x.whyNot(0, 1, 0));
        });
        s.test("otherwise if one of its halves has the grade with which the end is open, the first half, if both have it; the end"
            + " is open with the grade of the other half then.", this::ends);
        s.test("Halves that are laid do not rust.", () -> {
            RustTiles x = Games.with(1);
            x.lay(0, 0, 0);
            Games.draw(x, 18);
            s.dueGrades(x, 24, 4, 6);
            s.due("nothing rusted away", 0, x.tileOf(24, 6));
            s.due("it grows no older", 0, x.tileOf(24, 4));
            s.dueRow(x, 0, 1, 4, 6, 24);
        });
    }

    private void ends() {
        RustTiles x = Games.behind("l0a<");
        // Player 1 has 0-0 5-6 2-2 2-5 4-4; the row is open with 4 and 6.
        s.due("neither half", 3, x.whyNot(2, 0, 0));
        s.due("a half at the other end", 3, x.whyNot(1, 0, 0));
        s.due("both halves", 10, x.lay(4, 0, 0));
        s.dueRow(x, 0, 2, 4, 6, 22);
        s.due("the second half at the end 1", 10, x.lay(0, 0, 1));
        s.dueRow(x, 0, 3, 4, 2, 17);
        s.due("the first half at the end 1", 10, x.lay(3, 0, 1));
        s.dueRow(x, 0, 4, 4, 5, 16);
        s.due("the second half at the end 0", 10, x.lay(1, 0, 0));
        s.dueRow(x, 0, 5, 0, 5, 4);
        s.due("both halves with 0", 10, x.lay(0, 0, 0));
        s.dueRow(x, 0, 6, 0, 5, 0);
        s.due("the first half at the end 0", 10, x.lay(1, 0, 0));
        s.dueRow(x, 0, 7, 2, 5, 2);
        RustTiles rusted = Games.with(1);
        rusted.draw();
        rusted.lay(1, 0, 0);
        // The row is open with 5 and 6; 24=4-6 has become 4-5.
        s.due("the grade that it had", 3, rusted.whyNot(0, 0, 1));
        s.due("the grade that it has", 0, rusted.whyNot(0, 0, 0));
    }

    // ---- turns

    private void turns() {
        s.under("Turns");
        s.test("The player on the move lays a tile of the own hand, or draws the first tile of the stock, or, if there is no tile in"
            + " the stock, passes.", () -> {
            RustTiles x = new RustTiles();
            Games.draw(x, 17);
            s.due("pass with one tile in the stock", 5, x.pass());
            s.due("draw of the last tile", 7, x.draw());
            s.due("draw of none", 104, x.draw());
            s.due("lay of the first tile of player 0", 10, x.lay(0, 0, 0));
            s.due("it was", 24, x.rowOf(0, 3));
            s.due("pass without a stock", 10, x.pass());
        });
        s.test("Behind each of these the player's tiles rust: each tile that is in the hand now becomes a turn older (a tile just"
            + " drawn is 0 turns old, and becomes 1);", this::ages);
        s.test("Then the next player is on the move.", () -> {
            for (int players = 2; players <= 4; players++) {
                RustTiles draws = Games.begun(players);
                RustTiles lays = Games.begun(players);
                RustTiles passes = Games.withEmptyStock(players);
                int passer = (28 - 5 * players) % players;
                for (int turn = 0; turn < players + 1; turn++) {
                    s.due("on the move to draw", turn % players, draws.count(1));
                    s.due("on the move to lay", turn % players, lays.count(1));
                    draws.draw();
                    layWhatFits(lays);
                }
                for (int turn = 0; turn < players; turn++) {
                    s.due("on the move to pass", (passer + turn) % players, passes.count(1));
                    passes.pass();
                }
            }
        });
    }

    private static void layWhatFits(RustTiles x) {
        for (int i = 0; i < 30; i++) {
            if (x.whyNot(i / 6, i % 6 / 2, i % 2) == 0) {
                x.lay(i / 6, i % 6 / 2, i % 2);
                return;
            }
        }
    }

    private void ages() {
        RustTiles x = Games.with(9);
        x.lay(0, 0, 0);
        dueAges(x, 0, 1, 1, 1, 1);
        dueAges(x, 1, 0, 0, 0, 0, 0);
        s.due("the tile laid", 0, x.tileOf(24, 4));
        x.draw();
        dueAges(x, 0, 1, 1, 1, 1);
        dueAges(x, 1, 1, 1, 1, 1, 1, 1);
        s.due("the first of the stock", 0, x.tileOf(x.stock(0), 4));
        x.draw();
        dueAges(x, 0, 2, 2, 2, 2, 1);
        RustTiles empty = Games.withEmptyStock();
        dueAges(empty, 0, 9, 9, 9, 9, 9, 9, 8, 7, 6, 5, 4, 3, 2, 1);
        empty.pass();
        dueAges(empty, 0, 10, 10, 10, 10, 10, 10, 9, 8, 7, 6, 5, 4, 3, 2);
        dueAges(empty, 1, 9, 9, 9, 9, 9, 9, 8, 7, 6, 5, 4, 3, 2, 1);
        empty.draw();
        empty.lay(14, 0, 0);
        dueAges(empty, 1, 9, 9, 9, 9, 9, 9, 8, 7, 6, 5, 4, 3, 2, 1);
        RustTiles rusty = Games.with(1);
        rusty.draw();
        s.dueGrades(rusty, 19, 3, 3);
    }

    private void dueAges(RustTiles x, int player, int... turns) {
        for (int place = 0; place < turns.length; place++) {
            s.due("turns of player " + player + " at " + place, turns[place], x.tileOf(x.hand(player, place), 4));
        }
        s.due("no tile is left out", turns.length, x.playerOf(player, 0));
    }

    private void rust() {
        s.under("Turns");
        s.test("each tile whose turns are a multiple of setting 0 rusts:", () -> {
            for (int setting = 1; setting <= 9; setting++) {
                RustTiles x = Games.with(setting);
                for (int turn = 1; turn <= 9; turn++) {
                    x.draw();
                    s.due("24=4-6 by " + setting + " behind " + turn, turn / setting, x.tileOf(24, 6));
                    x.draw();
                    s.due("26=5-6 by " + setting + " behind " + turn, turn / setting, x.tileOf(26, 6));
                }
            }
            RustTiles x = Games.with(5);
            Games.draw(x, 12);
            x.set(7);
            x.draw();
            s.due("7 turns by 7", 2, x.tileOf(24, 6));
            x.draw();
            x.set(4);
            x.draw();
            s.due("8 turns by 4", 3, x.tileOf(24, 6));
            x.draw();
            x.set(8);
            x.draw();
            s.due("9 turns by 8", 3, x.tileOf(24, 6));
        });
        s.test("its half with the greater grade, the first one, if both are alike, becomes 1 less; if both are 0, nothing"
            + " happens.", () -> {
            RustTiles x = Games.with(1);
            int[] grades = {45, 44, 34, 33, 23, 22, 12, 11, 1};
            for (int turn = 0; turn < 9; turn++) {
                x.draw();
                s.dueGrades(x, 24, grades[turn] / 10, grades[turn] % 10);
                x.draw();
            }
            x.pass();
            s.dueGrades(x, 24, 0, 0);
            s.due("rusted away", 10, x.tileOf(24, 6));
            int lost = x.playerOf(0, 2);
            x.lay(0, 0, 0);
            s.due("what player 1 loses does not count", lost, x.playerOf(0, 2));
            x.pass();
            s.dueGrades(x, 24, 0, 0);
            s.due("no more", 10, x.tileOf(24, 6));
            s.due("it grows older still", 11, x.tileOf(24, 4));
            s.dueGrades(x, 0, 0, 0);
            s.due("0-0 never rusted", 0, x.tileOf(0, 6));
        });
        s.test("Each grade that rusts away is lost, for this player.", () -> {
            RustTiles x = Games.with(1);
            x.draw();
            s.due("lost by player 0: 4-6 2-6 3-5 0-4 0-2 3-4", 6, x.playerOf(0, 2));
            s.due("lost by player 1", 0, x.playerOf(1, 2));
            x.draw();
            s.due("lost by player 1: 5-6 2-2 2-5 4-4 1-3, not 0-0", 5, x.playerOf(1, 2));
            s.due("lost by player 0 still", 6, x.playerOf(0, 2));
            x.lay(0, 0, 0);
            s.due("the tile that rusted is laid, the grade stays lost", 11, x.playerOf(0, 2));
        });
    }

    private void theEnd() {
        s.under("Turns");
        s.test("The game is over as soon as a player has no tile in the hand, ahead of rusting,", () -> {
            RustTiles x = Games.aTileFromTheEnd();
            s.due("with one tile it goes on", 0, x.count(1));
            s.due("with one tile there is no winner", -1, x.count(8));
            x.set(1);
            s.due("it is over", 11, x.lay(0, 1, 0));
            s.due("nobody is on the move", -1, x.count(1));
            s.due("nothing rusts", 0, x.count(7));
            s.due("the other's tiles grow no older", 4, x.tileOf(26, 4));
            RustTiles other = Games.behind("d;l0a<;d;l0b<;d;l1b<;d;l0b<;d");
            s.due("with one tile of player 1 it goes on", 1, other.count(1));
            s.due("it is over by player 1", 11, other.lay(0, 2, 0));
            s.due("player 1 has won", 1, other.count(8));
        });
        s.test("or as all players passed, one behind the other", () -> {
            for (int players = 2; players <= 4; players++) {
                RustTiles x = Games.withEmptyStock(players);
                for (int i = 1; i < players; i++) {
                    s.due("pass " + i + " of " + players, 10, x.pass());
                }
                s.due("it is broken by laying", 10, x.lay(0, 0, 0));
                for (int i = 1; i < players; i++) {
                    s.due("pass again " + i + " of " + players, 10, x.pass());
                    s.due("it goes on", 1, x.count(1) >= 0 ? 1 : 0);
                    x.oil(0);
                    s.due("refused, it is not broken", 104, x.draw());
                    s.due("a lay refused does not break it", 2, x.lay(28, 0, 0));
                }
                s.due("the last pass", 11, x.pass());
            }
        });
        s.test("(the last one's tiles rust still).", () -> {
            RustTiles x = Games.withEmptyStock();
            x.set(1);
            x.pass();
            s.due("the first one's tiles rust: all of 14", 14, x.playerOf(0, 2) - 6);
            int before = x.playerOf(1, 2);
            s.due("over", 11, x.pass());
            s.due("the last one's tiles rust: all but 0-0", before + 13, x.playerOf(1, 2));
            s.due("they grow older", 10, x.tileOf(26, 4));
        });
        s.test("Nobody is on the move then.", () -> {
            for (RustTiles x : new RustTiles[] {Games.overByLaying(), Games.overByPassing()}) {
                s.due("on the move", -1, x.count(1));
                s.due("whyNot", 1, x.whyNot(0, 0, 0));
                s.due("advice", -1, x.advice());
                s.due("lay", 1, x.lay(0, 0, 0));
                s.due("draw", 101, x.draw());
                s.due("pass", 1, x.pass());
                s.due("oil", -1, x.oil(0));
            }
        });
    }

    private void sumAndWinner() {
        s.under("Turns");
        s.test("The sum of a player is the grades of all halves in the hand, and the grades lost, together.", () -> {
            RustTiles x = Games.with(1);
            s.due("at first", 32, x.playerOf(0, 3));
            x.draw();
            s.due("with 3-4, of which a grade is lost", 39, x.playerOf(0, 3));
            x.lay(0, 0, 0);
            s.due("without 0-0", 30, x.playerOf(1, 3));
            x.lay(0, 1, 0);
            s.due("without 4-5", 30, x.playerOf(0, 3));
            s.due("without tiles and grades lost", 0, Games.overByLaying().playerOf(0, 3));
            // Player 0 lays 0-2, 2-5, 3-3, 3-4 and 0-0, as they are then; 4 + 3 + 2 + 1 grades rust away from the others.
            RustTiles last = Games.with(1);
            Games.write(last, "l4a>;d;l1a>;d;l1b>;d;l0b<;d;l0a<");
            s.due("turns", 9, last.run());
            s.due("no tile in the hand", 0, last.playerOf(0, 0));
            s.due("the grades lost alone", 10, last.playerOf(0, 3));
            RustTiles away = Games.rustedAway();
            s.due("all grades are lost", 168, away.playerOf(0, 3) + away.playerOf(1, 3));
        });
        s.test("The winner is the player with the least sum, of several the lowest, if the game is over.", () -> {
            dueWinner(0, 831, 56, 56, 56);
            dueWinner(1, 35, 66, 51, 51);
            dueWinner(0, 37, 49, 70, 49);
            dueWinner(1, 27, 41, 35, 57, 35);
            dueWinner(0, 22, 84, 84);
            dueWinner(1, 1, 91, 77);
        });
    }

    private void dueWinner(int winner, int lot, int... sums) {
        RustTiles x = new RustTiles();
        x.begin(sums.length, lot);
        Games.draw(x, 28 - 5 * sums.length);
        for (int player = 0; player < sums.length; player++) {
            s.due("no winner as yet", -1, x.count(8));
            s.due("sum of " + player + " by the lot " + lot, sums[player], x.playerOf(player, 3));
            x.pass();
        }
        s.due("winner by the lot " + lot, winner, x.count(8));
    }

    // ---- trains and settings

    private void trains() {
        s.under("Trains");
        s.test("A train from a grade is a row of tiles of a hand, as they are now, one behind the other, each of which has a half"
            + " with the grade that is open, and leaves its other half open", () -> {
            RustTiles x = new RustTiles();
            // Player 0 has 4-6 2-6 3-5 0-4 0-2: a ring 0-4 4-6 6-2 2-0, and 3-5.
            int[] first = {4, 0, 4, 1, 4, 1, 4};
            for (int grade = 0; grade < 7; grade++) {
                s.due("longest(0, " + grade + ")", first[grade], x.longest(0, grade));
            }
            x.set(1);
            x.draw();
            // Player 0 has 4-5 2-5 3-4 0-3 0-1 3-3 now: all from 1 to 2 or back, less from what lies between.
            int[] rusted = {5, 6, 6, 4, 4, 5, 0};
            for (int grade = 0; grade < 7; grade++) {
                s.due("longest(0, " + grade + ") as they are now", rusted[grade], x.longest(0, grade));
            }
        });
        s.test("(with a tile of two halves alike the same grade again)", () -> {
            RustTiles x = new RustTiles();
            // Player 1 has 0-0 5-6 2-2 2-5 4-4.
            s.due("0-0 alone", 1, x.longest(1, 0));
            s.due("4-4 alone", 1, x.longest(1, 4));
            s.due("2-2 2-5 5-6", 3, x.longest(1, 2));
            s.due("6-5 5-2 2-2", 3, x.longest(1, 6));
            s.due("5-2 2-2", 2, x.longest(1, 5));
        });
        s.test("at first the grade told is open.", () -> {
            RustTiles x = new RustTiles();
            s.due("a grade that no half has, 3", 0, x.longest(1, 3));
            s.due("a grade that no half has, 1", 0, x.longest(1, 1));
            s.due("of a hand without tiles", 0, Games.overByLaying().longest(0, 0));
        });
    }

    private void settings() {
        s.under("Settings");
        s.test("0: turns until a tile rusts, 1 to 9, at first 3.", () -> {
            RustTiles x = new RustTiles();
            s.due("at first", 3, x.setting());
            s.due("the least", 3, x.set(1));
            s.due("the greatest", 1, x.set(9));
            s.dueThrows("0", Sentences.ARGUMENT, x, y -> y.set(0));
            s.dueThrows("10", Sentences.ARGUMENT, x, y -> y.set(10));
            RustTiles third = new RustTiles();
            Games.draw(third, 4);
            s.due("nothing rusts in two turns", 0, third.count(7));
            third.draw();
            s.due("4-6 2-6 3-5 0-4 0-2 and the first drawn rust in three", 6, third.playerOf(0, 2));
        });
        s.test("(It stays when a game begins.)", () -> {
            RustTiles x = Games.with(9);
            x.begin(4, 1);
            s.due("9 stays", 9, x.setting());
            x.set(1);
            x.begin(2, 1);
            s.due("1 stays", 1, x.setting());
            x.draw();
            s.due("and holds in the new game", 6, x.count(7));
        });
    }

    // ---- input text

    private void inputText() {
        s.under("Input text");
        s.test("The buffer has at most 60 characters.", () -> {
            RustTiles x = new RustTiles();
            for (int length = 1; length <= 60; length++) {
                s.due("append", length, x.append('~'));
            }
            s.dueThrows("the 61st", Sentences.STATE, x, y -> y.append('~'));
        });
        s.test("Turns as a text are one or more of these with \";\" between them:", () -> {
            dueTurns(false, "", "d;", ";", ";d", "d;;d", "d;d;");
            dueTurns(true, "d", "d;d", "p;d;l0a<", "d;".repeat(29) + "d");
            dueNext("d", ";");
            dueNext("p", ";");
            dueNext("l0a<", ";");
            dueNext("l27c>", ";");
            dueNext("d;p;l1b<", ";");
        });
        s.test("\"l\", a place in the hand, 0 to 27, without leading zeros, the letter of a row, \"a\" to \"c\", and \"<\" for the"
            + " end 0 or \">\" for the end 1;", () -> {
            dueNext("l", "0123456789");
            dueNext("l0", "abc");
            dueNext("l1", "0123456789abc");
            dueNext("l2", "01234567abc");
            for (String place : new String[] {"3", "4", "5", "6", "7", "8", "9", "10", "19", "20", "26", "27"}) {
                dueNext("l" + place, "abc");
            }
            for (String row : new String[] {"l0a", "l1b", "l2c", "l3a", "l9c", "l10a", "l27b", "d;p;l19c"}) {
                dueNext(row, "<>");
            }
            dueTurns(false, "l", "l0", "l0a", "la<", "l28a<", "l00a<", "l01a<", "l-1a<", "l0d<", "l0A<", "l0`<", "l0a=", "l0a<>");
            dueTurns(true, "l0a<", "l0c>", "l27a<", "l27c>", "l9b<", "l10b>", "l19b<", "l20a>");
            RustTiles x = Games.behind("l0a<;l4a<;l1c>;l1c<");
            // Player 1 laid 4-4 at the end 0, player 0 3-5 at an empty row, and player 1 5-6 at its end 0, which fails.
            s.dueRow(x, 0, 2, 4, 6, 22);
            s.dueRow(x, 2, 1, 3, 5, 20);
            s.due("the turn refused", 1, x.count(9));
        });
        s.test("\"d\" (to draw); \"p\" (to pass).", () -> {
            dueNext("", "lpd");
            dueNext("d;", "lpd");
            dueNext("p;", "lpd");
            dueNext("l0a<;", "lpd");
            RustTiles x = Games.withEmptyStock();
            Games.write(x, "p");
            s.due("p passes", 1, x.run());
            s.due("a pass", 1, x.count(6));
            RustTiles y = Games.behind("d");
            s.due("d draws", 1, y.playerOf(0, 5));
        });
        s.test("The buffer is read from left to right; a character is a syntax error if no turns as a text, of any length, begin with"
            + " the characters before it and this character.", () -> {
            dueError("d;d;d;d;d;d;d;d;d;d;d;d;d;d;d;d;d;d;d;d;d;d;d;d;d;d;d;d;d;d;", 60);
            dueError("d;d;d;d;d;d;d;d;d;d;d;d;d;d;d;d;d;d;d;d;d;d;d;d;d;d;d;d;d;l2", 60);
            dueError("d;d;d;d;d;d;d;d;d;d;d;d;d;d;d;d;d;d;d;d;d;d;d;d;d;d;d;d;d;dd", 59);
            dueError("xd;x", 0);
            dueError("dx;x", 1);
        });
    }

    private void dueTurns(boolean are, String... texts) {
        for (String text : texts) {
            RustTiles x = new RustTiles();
            Games.write(x, text);
            if (are) {
                s.due(text + " has no error", text.length(), x.firstError());
                x.run();
                s.due(text + " is run", 0, x.clearBuffer());
            } else {
                s.dueThrows(text + " is run", Sentences.ARGUMENT, x, y -> y.run());
            }
        }
    }

    /** Of all characters these alone can stand behind the ones before. */
    private void dueNext(String before, String next) {
        for (char c = 33; c <= 126; c++) {
            dueError(before + c, before.length() + (next.indexOf(c) >= 0 ? 1 : 0));
        }
    }

    private void dueError(String text, int want) {
        RustTiles x = new RustTiles();
        Games.write(x, text);
        s.due("first error of " + text, want, x.firstError());
    }

    // ---- snapshots and undo

    private void snapshots() {
        s.under("Snapshots, undo");
        s.test("There are two slots; a snapshot is all but the buffer, the slots and the saved states.", () -> {
            RustTiles x = Games.full();
            x.keep(0);
            changeAll(x);
            x.goBack(0);
            s.dueAlike("all comes back", Games.full(), x, "count(11)", "firstError()");
            s.due("the buffer stays", 1, x.clearBuffer());
            s.due("the other slot stays", 0, x.goBack(1));
            s.due("three players of the other slot", 3, x.count(0));
            RustTiles y = Games.full();
            y.keep(1);
            s.due("slot 0 is another one", 17, y.goBack(0));
            s.due("two players of slot 0", 2, y.count(0));
            s.dueThrows("slot -1", Sentences.ARGUMENT, y, z -> z.keep(-1));
            s.dueThrows("slot 2", Sentences.ARGUMENT, y, z -> z.keep(2));
            RustTiles w = new RustTiles();
            w.keep(0);
            w.keep(1);
            w.draw();
            w.goBack(0);
            s.due("saved states are not taken back", 2, w.count(11));
            w.undo();
            w.undo();
            s.due("they lead back to the beginning", 0, w.count(5));
            s.due("a slot stays when it was undone", 18, w.goBack(1));
        });
    }

    private static void changeAll(RustTiles x) {
        x.clearBuffer();
        x.begin(4, 9999);
        x.set(9);
        x.pass();
        x.draw();
        x.lay(0, 2, 0);
        x.append('x');
    }

    private void undo() {
        s.under("Snapshots, undo");
        s.test("Each method that is marked \"undoable\" and does not throw an exception saves the state from before it (also if it"
            + " changes nothing, or is refused): all, also what is counted so far, but the buffer, the slots and the saved"
            + " states.", () -> {
            Sentences.Turn[] marked = {x -> x.begin(4, 9999), x -> x.lay(0, 0, 0), x -> x.lay(99, 0, 0), x -> x.draw(),
                x -> x.pass(), x -> x.oil(0), x -> x.set(9), x -> x.goBack(0), x -> x.goBack(1)};
            Sentences.Made[] states = {Games::full, EdgesOfTerms::kept, EdgesOfTerms::keptAndOver, EdgesOfTerms::keptAndEmpty};
            for (int i = 0; i < marked.length; i++) {
                for (int j = 0; j < states.length; j++) {
                    s.dueUndoable("call " + i + " in the state " + j, states[j], marked[i]);
                }
            }
            RustTiles x = new RustTiles();
            x.set(3);
            s.due("it changes nothing", 1, x.count(11));
            x.pass();
            s.due("it is refused", 2, x.count(11));
            s.due("it was counted", 1, x.count(9));
            Games.write(x, "d;d;d");
            x.keep(0);
            x.undo();
            s.due("what is counted is taken back", 0, x.count(9));
            s.due("the buffer is not", 5, x.firstError());
            s.due("the slot is not", 18, x.goBack(0));
            s.due("the snapshot has what was counted", 1, x.count(9));
            s.due("the text is run", 3, x.run());
            x.undo();
            s.due("the text is taken back as one call", 0, x.count(5));
        });
        s.test("At most 6 states are saved; the oldest one is dropped first.", () -> {
            RustTiles x = new RustTiles();
            for (int value = 1; value <= 9; value++) {
                x.set(value);
                s.due("saved", Math.min(value, 6), x.count(11));
            }
            for (int left = 5; left >= 0; left--) {
                s.due("left", left, x.undo());
                s.due("the setting", left + 3, x.setting());
            }
            s.dueThrows("the seventh", Sentences.STATE, x, y -> y.undo());
            for (int value = 4; value <= 8; value++) {
                x.set(value);
            }
            s.due("saved again", 5, x.count(11));
            x.undo();
            x.undo();
            x.set(9);
            x.set(1);
            x.set(2);
            s.due("the room is used again", 6, x.count(11));
            int[] settings = {1, 9, 6, 5, 4, 3};
            for (int i = 0; i < 6; i++) {
                x.undo();
                s.due("the setting again", settings[i], x.setting());
            }
            s.dueThrows("no more again", Sentences.STATE, x, y -> y.undo());
        });
    }

    private static RustTiles kept() {
        RustTiles x = new RustTiles();
        x.keep(0);
        x.draw();
        x.keep(1);
        return x;
    }

    private static RustTiles keptAndOver() {
        RustTiles x = Games.overByLaying();
        x.keep(1);
        x.undo();
        x.keep(0);
        x.goBack(1);
        return x;
    }

    private static RustTiles keptAndEmpty() {
        RustTiles x = Games.withEmptyStock();
        x.keep(0);
        x.undo();
        x.keep(1);
        x.goBack(0);
        return x;
    }

    // ---- exceptions

    private void exceptions() {
        s.under("Exceptions");
        s.test("A call that throws an exception changes nothing (the buffer stays as it is, too).", () -> {
            Sentences.Made[] states = {RustTiles::new, Games::full, EdgesOfTerms::fullBuffer, EdgesOfTerms::keptAndOver};
            Sentences.Turn[] calls = {x -> x.begin(1, 0), x -> x.lay(0, 3, 0), x -> x.lay(0, 0, 2), x -> x.set(10),
                x -> x.append(32), x -> x.append(127), x -> x.run(), x -> x.keep(2), x -> x.goBack(-1), x -> x.tileOf(28, 0),
                x -> x.hand(4, 0), x -> x.hand(0, -1), x -> x.stock(-1), x -> x.playerOf(0, 7), x -> x.rowOf(3, 0),
                x -> x.count(12), x -> x.whyNot(0, 3, 0), x -> x.longest(0, 7), x -> x.whole(0, 0, 2)};
            for (Sentences.Made state : states) {
                dueNothingChanged(state, calls);
            }
        });
        s.test("If several exceptions apply, the one that is named first in the throws clause is thrown.", () -> {
            RustTiles x = fullBuffer();
            s.dueThrows("lay", Sentences.INDEX, x, y -> y.lay(0, 3, 2));
            s.dueThrows("append at a full buffer", Sentences.ARGUMENT, x, y -> y.append(32));
            s.dueThrows("append behind the last code", Sentences.ARGUMENT, x, y -> y.append(127));
            s.dueThrows("goBack with empty slots", Sentences.ARGUMENT, x, y -> y.goBack(2));
            s.dueThrows("tileOf", Sentences.INDEX, x, y -> y.tileOf(28, 7));
            s.dueThrows("hand", Sentences.INDEX, x, y -> y.hand(2, -1));
            s.dueThrows("playerOf", Sentences.INDEX, x, y -> y.playerOf(2, 7));
            s.dueThrows("rowOf", Sentences.INDEX, x, y -> y.rowOf(3, 4));
            s.dueThrows("whyNot", Sentences.INDEX, x, y -> y.whyNot(0, 3, 2));
            s.dueThrows("longest", Sentences.INDEX, x, y -> y.longest(2, 7));
            s.dueThrows("whole", Sentences.INDEX, x, y -> y.whole(2, 7, 2));
        });
        s.test("The constants: `NONE = -1`: There is nothing to return.", () -> s.due("NONE", -1, RustTiles.NONE));
    }

    private static RustTiles fullBuffer() {
        RustTiles x = new RustTiles();
        Games.write(x, "~".repeat(60));
        return x;
    }

    private void dueNothingChanged(Sentences.Made state, Sentences.Turn[] calls) {
        RustTiles x = state.game();
        for (int i = 0; i < calls.length; i++) {
            long before = x.digest();
            long thrown = 0;
            try {
                calls[i].on(x);
            } catch (RuntimeException e) {
                thrown = 1;
            }
            s.due("call " + i + " throws", 1, thrown);
            s.due("call " + i + " changes nothing", before, x.digest());
        }
        // What the digest does not tell: what the saved states and the slots hold.
        RustTiles twin = state.game();
        for (int slot = 0; slot < 2; slot++) {
            s.due("slot " + slot, slotOf(twin, slot), slotOf(x, slot));
        }
        for (int i = twin.count(11); i > 0; i--) {
            s.due("a saved state", twin.undo(), x.undo());
            s.due("what it holds", twin.digest(), x.digest());
        }
        s.due("no more saved states", 0, x.count(11));
    }

    private static long slotOf(RustTiles x, int slot) {
        try {
            x.goBack(slot);
        } catch (IllegalStateException e) {
            return -1;
        }
        return x.digest();
    }

    private void faces() {
        s.under("Exceptions");
        s.plain("Ahead of the calls `begin`, `lay`, `draw`, `pass`, `oil`, `set` the interface says: ---- the game.");
        s.plain("Ahead of the calls `append`, `clearBuffer`, `firstError`, `run`, `keep`, `goBack`, `undo` the interface says: ----"
            + " texts, snapshots.");
        s.test("Ahead of the calls `tileOf`, `hand`, `stock`, `playerOf`, `rowOf`, `count`, `setting` the interface says: ---- looks;"
            + " nothing is changed.", () -> dueQuiet(x -> x.tileOf(27, 6), x -> x.hand(1, 99), x -> x.stock(0), x -> x.stock(99),
                x -> x.playerOf(1, 6), x -> x.rowOf(2, 3), x -> x.count(8), x -> x.count(11), x -> x.setting()));
        s.test("Ahead of the calls `whyNot`, `longest`, `whole`, `advice`, `commonest`, `rustShare`, `digest` the interface says: ----"
            + " what would be; nothing is changed.", () -> dueQuiet(x -> x.whyNot(0, 0, 0), x -> x.whyNot(MAX, 2, 1),
                x -> x.whyNot(MIN, 0, 1), x -> x.longest(1, 6), x -> x.whole(0, 0, 0), x -> x.whole(1, 6, 1), x -> x.advice(),
                x -> x.commonest(), x -> (long) (x.rustShare() * 168), x -> x.digest(), x -> x.firstError()));
    }

    private void dueQuiet(Sentences.Turn... looks) {
        Sentences.Made[] states = {RustTiles::new, Games::full, Games::overByLaying, Games::overByPassing, Games::rustedAway};
        for (int i = 0; i < looks.length; i++) {
            for (Sentences.Made state : states) {
                RustTiles x = state.game();
                long first = looks[i].on(x);
                s.due("look " + i + " answers the same again", first, looks[i].on(x));
                s.dueAlike("look " + i, state.game(), x);
            }
        }
    }
}
