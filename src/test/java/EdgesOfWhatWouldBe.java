/** The boundary cases that promises 22 to 28 name: whyNot, longest, whole, advice, commonest, rustShare, digest. */
final class EdgesOfWhatWouldBe {
    private static final int MIN = Sentences.MIN;
    private static final int MAX = Sentences.MAX;

    private final Sentences s;

    EdgesOfWhatWouldBe(Sentences s) {
        this.s = s;
    }

    void all() {
        whyNot();
        longest();
        whole();
        advice();
        commonest();
        rustShare();
        digest();
    }

    // ---- promise 22

    private void whyNot() {
        s.under("Promise 22: whyNot");
        s.test("Tells why a tile cannot be laid by the player on the move.", () -> {
            RustTiles x = Games.behind("l0a<");
            s.due("player 1's 5-6 at 6", 0, x.whyNot(1, 0, 1));
            s.due("player 1's 0-0 at 6, where player 0's 2-6 would match", 3, x.whyNot(0, 0, 1));
            s.due("nothing is counted", 0, x.count(9));
            s.due("nothing is saved", 2, x.count(11));
            s.due("no turn", 1, x.count(5));
        });
        s.test("- `place`: its place in the hand, from 0", () -> {
            RustTiles x = new RustTiles();
            s.due("the first place", 0, x.whyNot(0, 0, 0));
            s.due("the last place", 0, x.whyNot(4, 0, 0));
            s.due("the place behind it", 2, x.whyNot(5, 0, 0));
            s.due("the place before the first", 2, x.whyNot(-1, 0, 0));
            s.due("the last of 14", 0, Games.withEmptyStock().whyNot(13, 2, 1));
            s.due("behind the last of 14", 2, Games.withEmptyStock().whyNot(14, 2, 1));
        });
        s.test("- `row`: 0 to 2", () -> {
            for (int row = 0; row <= 2; row++) {
                RustTiles x = new RustTiles();
                x.lay(0, row, 0);
                for (int other = 0; other <= 2; other++) {
                    s.due("0-0 at row " + other, other == row ? 3 : 0, x.whyNot(0, other, 0));
                }
            }
        });
        s.test("- `end`: 0 or 1", () -> {
            RustTiles x = Games.behind("l0a<");
            s.due("4-4 at 4", 0, x.whyNot(4, 0, 0));
            s.due("4-4 at 6", 3, x.whyNot(4, 0, 1));
            s.due("an empty row, 0", 0, x.whyNot(4, 1, 0));
            s.due("an empty row, 1", 0, x.whyNot(4, 1, 1));
        });
        s.test("Returns 0 if it can; otherwise the first reason, as for lay().", () -> {
            for (Sentences.Made state : new Sentences.Made[] {RustTiles::new, () -> Games.behind("l0a<"), Games::full,
                Games::overByLaying, Games::overByPassing, Games::aTileFromTheEnd}) {
                for (int place : new int[] {-1, 0, 1, 4, 5, 6, 13, 14, 28, MIN, MAX}) {
                    for (int at = 0; at < 6; at++) {
                        dueAsLay(state, place, at / 2, at % 2);
                    }
                }
            }
            s.due("over ahead of no such place", 1, Games.overByLaying().whyNot(-1, 0, 0));
            s.due("no such place ahead of no match", 2, Games.behind("l0a<").whyNot(5, 0, 0));
            s.due("no such place at an empty row", 2, Games.behind("l0a<").whyNot(5, 1, 0));
        });
        s.test("Throws `IndexOutOfBoundsException` if there is no such row", () -> {
            for (int row : new int[] {-1, 3, MIN, MAX}) {
                s.dueThrows("row " + row, Sentences.INDEX, Games.full(), y -> y.whyNot(0, row, 0));
                s.dueThrows("row " + row + " ahead of the end", Sentences.INDEX, Games.full(), y -> y.whyNot(0, row, 2));
                s.dueThrows("row " + row + " when over", Sentences.INDEX, Games.overByLaying(), y -> y.whyNot(0, row, 0));
                s.dueThrows("row " + row + " with no such place", Sentences.INDEX, Games.full(), y -> y.whyNot(-1, row, 0));
            }
        });
        s.test("Throws `IllegalArgumentException` if end is out of range", () -> {
            for (int end : new int[] {-1, 2, MIN, MAX}) {
                s.dueThrows("end " + end, Sentences.ARGUMENT, Games.full(), y -> y.whyNot(0, 1, end));
                s.dueThrows("end " + end + " of an empty row", Sentences.ARGUMENT, new RustTiles(), y -> y.whyNot(0, 1, end));
                s.dueThrows("end " + end + " when over", Sentences.ARGUMENT, Games.overByPassing(), y -> y.whyNot(0, 1, end));
                s.dueThrows("end " + end + " with no such place", Sentences.ARGUMENT, Games.full(), y -> y.whyNot(-1, 1, end));
            }
        });
    }

    private void dueAsLay(Sentences.Made state, int place, int row, int end) {
        RustTiles x = state.game();
        int reason = x.whyNot(place, row, end);
        int answer = x.lay(place, row, end);
        s.due("lay(" + place + ", " + row + ", " + end + ") answers " + answer, reason, answer >= 10 ? 0 : answer);
    }

    // ---- promise 23

    private static RustTiles withTen() {
        // Player 1 has 0-0 2-3 0-0 0-1 1-2 0-1 2-3 0-0 2-2 2-2 behind ten turns.
        RustTiles x = Games.with(1);
        x.begin(2, 7);
        Games.draw(x, 10);
        return x;
    }

    private static RustTiles withEleven() {
        RustTiles x = withTen();
        Games.draw(x, 2);
        return x;
    }

    private void longest() {
        s.under("Promise 23: longest");
        s.test("Tells how many tiles the longest train of a hand has.", () -> {
            RustTiles x = new RustTiles();
            int[] first = {4, 0, 4, 1, 4, 1, 4};
            int[] second = {1, 0, 3, 0, 1, 2, 3};
            for (int grade = 0; grade < 7; grade++) {
                s.due("longest(0, " + grade + ")", first[grade], x.longest(0, grade));
                s.due("longest(1, " + grade + ")", second[grade], x.longest(1, grade));
            }
        });
        s.test("- `player`: 0 to the number of the last player of this game", () -> {
            // Player 2 has 3-4 1-3 5-5 4-5 0-3, player 3 3-6 6-6 3-3 2-3 1-4.
            s.due("the last of two", 3, Games.begun(2).longest(1, 2));
            s.due("the last of three, 1-3 3-4 4-5 5-5", 4, Games.begun(3).longest(2, 1));
            s.due("the last of four, 6-6 6-3 3-3 3-2", 4, Games.begun(4).longest(3, 6));
        });
        s.test("- `grade`: 0 to 6, from which it goes", () -> {
            RustTiles x = new RustTiles();
            s.due("0", 4, x.longest(0, 0));
            s.due("6", 4, x.longest(0, 6));
            s.dueThrows("-1", Sentences.ARGUMENT, x, y -> y.longest(0, -1));
            s.dueThrows("7", Sentences.ARGUMENT, x, y -> y.longest(0, 7));
        });
        s.test("Returns how many tiles; NONE if the hand has more than 10.", () -> {
            RustTiles ten = withTen();
            s.due("ten tiles", 10, ten.playerOf(1, 0));
            int[] wants = {9, 10, 10, 9, 0, 0, 0};
            for (int grade = 0; grade < 7; grade++) {
                s.due("ten tiles from " + grade, wants[grade], ten.longest(1, grade));
            }
            RustTiles eleven = withEleven();
            s.due("eleven tiles", 11, eleven.playerOf(1, 0));
            for (int grade = 0; grade < 7; grade++) {
                s.due("eleven tiles from " + grade, -1, eleven.longest(1, grade));
            }
            eleven.undo();
            s.due("ten tiles again", 10, eleven.playerOf(1, 0));
            s.due("all of them again", 10, eleven.longest(1, 1));
            s.due("fourteen tiles", -1, Games.withEmptyStock().longest(0, 0));
            s.due("no tiles", 0, Games.overByLaying().longest(0, 0));
            s.due("one tile that fits", 1, Games.aTileFromTheEnd().longest(0, 3));
            s.due("one tile that does not fit", 0, Games.aTileFromTheEnd().longest(0, 6));
        });
        s.test("Throws `IndexOutOfBoundsException` if there is no such player in this game", () -> {
            for (int players = 2; players <= 4; players++) {
                for (int player : new int[] {-1, players, MIN, MAX}) {
                    s.dueThrows("player " + player + " of " + players, Sentences.INDEX, Games.begun(players), y -> y.longest(player, 0));
                    s.dueThrows("player ahead of the grade", Sentences.INDEX, Games.begun(players), y -> y.longest(player, 7));
                }
            }
        });
        s.test("Throws `IllegalArgumentException` if grade is out of range", () -> {
            for (int grade : new int[] {-1, 7, MIN, MAX}) {
                s.dueThrows("grade " + grade, Sentences.ARGUMENT, Games.full(), y -> y.longest(0, grade));
                s.dueThrows("grade " + grade + " of no tiles", Sentences.ARGUMENT, Games.overByLaying(), y -> y.longest(0, grade));
                s.dueThrows("grade " + grade + " of 14", Sentences.ARGUMENT, Games.withEmptyStock(), y -> y.longest(0, grade));
            }
        });
    }

    // ---- promise 24

    private void dueWhole(RustTiles x, int player, int... wants) {
        for (int grade = 0; grade < 7; grade++) {
            s.due("whole(" + player + ", " + grade + ", 0)", wants[grade], x.whole(player, grade, 0));
            s.due("whole(" + player + ", " + grade + ", 1)", wants[grade], x.whole(player, grade, 1));
        }
    }

    private void whole() {
        s.under("Promise 24: whole");
        s.test("Tells whether all tiles of a hand could be one train.", () -> {
            RustTiles ring = Games.behind("l2a<");
            // Player 0 has 4-6 2-6 0-4 0-2.
            dueWhole(ring, 0, 1, 0, 1, 0, 1, 0, 1);
            RustTiles way = Games.behind("d;l0a<;l0b<;l3c<");
            // Player 1 has 5-6 2-2 2-5.
            dueWhole(way, 1, 0, 0, 1, 0, 0, 0, 1);
            RustTiles apart = Games.behind("d;l4a<");
            // Player 1 has 0-0 5-6 2-2 2-5: all grades stand on them as they may, but 0-0 hangs alone.
            dueWhole(apart, 1, 0, 0, 0, 0, 0, 0, 0);
            // Player 0 has 4-6 2-6 3-5 0-4 0-2: a ring, and 3-5 alone.
            dueWhole(new RustTiles(), 0, 0, 0, 0, 0, 0, 0, 0);
            RustTiles rusted = Games.with(1);
            rusted.draw();
            // 4-5 2-5 3-4 0-3 0-1 3-3: from 1 to 2, or back.
            dueWhole(rusted, 0, 0, 1, 1, 0, 0, 0, 0);
        });
        s.test("- `player`: 0 to the number of the last player of this game", () -> {
            // Player 2 has 3-4 1-3 5-5 4-5 0-3: 0, 1, 3 and 5 stand on them at an odd number of halves.
            dueWhole(Games.begun(3), 2, 0, 0, 0, 0, 0, 0, 0);
            // Player 3 has 3-6 6-6 3-3 2-3, behind laying 1-4: from 2 to 6, or back.
            RustTiles last = Games.begun(4);
            last.set(9);
            Games.draw(last, 3);
            last.lay(4, 0, 0);
            dueWhole(last, 3, 0, 0, 1, 0, 0, 0, 1);
        });
        s.test("- `grade`: 0 to 6, from which it goes", () -> {
            RustTiles x = Games.behind("l2a<");
            s.due("0 by trying", 1, x.whole(0, 0, 0));
            s.due("6 by counting", 1, x.whole(0, 6, 1));
            s.dueThrows("-1", Sentences.ARGUMENT, x, y -> y.whole(0, -1, 0));
            s.dueThrows("7", Sentences.ARGUMENT, x, y -> y.whole(0, 7, 1));
        });
        s.test("- `what`: 0: told by trying; 1: told by how often each grade stands on the halves, and what hangs together", () -> {
            for (int lot = 0; lot < 300; lot++) {
                RustTiles x = Games.with(1 + lot % 3);
                x.begin(2 + lot % 3, lot);
                for (int turn = 0; turn < 12; turn++) {
                    x.draw();
                    for (int grade = 0; grade < 7; grade++) {
                        int player = turn % (2 + lot % 3);
                        s.due("the same for both", x.whole(player, grade, 0), x.whole(player, grade, 1));
                    }
                }
            }
        });
        s.test("Returns 1 if so, otherwise 0 (the same for both; 1 for a hand without tiles); NONE if the hand has more than 10.", () -> {
            dueWhole(Games.overByLaying(), 0, 1, 1, 1, 1, 1, 1, 1);
            // One tile, 3-5.
            dueWhole(Games.aTileFromTheEnd(), 0, 0, 0, 0, 1, 0, 1, 0);
            RustTiles alike = Games.behind("d;l0a<;d;l0b<;d;l1b<;d;l0b<;d");
            // One tile, 4-4.
            dueWhole(alike, 1, 0, 0, 0, 0, 1, 0, 0);
            dueWhole(withTen(), 1, 0, 1, 1, 0, 0, 0, 0);
            RustTiles eleven = withEleven();
            dueWhole(eleven, 1, -1, -1, -1, -1, -1, -1, -1);
            eleven.undo();
            dueWhole(eleven, 1, 0, 1, 1, 0, 0, 0, 0);
            dueWhole(Games.withEmptyStock(), 0, -1, -1, -1, -1, -1, -1, -1);
        });
        s.test("Throws `IndexOutOfBoundsException` if there is no such player in this game", () -> {
            for (int players = 2; players <= 4; players++) {
                for (int player : new int[] {-1, players, MIN, MAX}) {
                    s.dueThrows("player " + player, Sentences.INDEX, Games.begun(players), y -> y.whole(player, 0, 0));
                    s.dueThrows("player ahead of the grade", Sentences.INDEX, Games.begun(players), y -> y.whole(player, 7, 0));
                    s.dueThrows("player ahead of what", Sentences.INDEX, Games.begun(players), y -> y.whole(player, 0, 2));
                }
            }
        });
        s.test("Throws `IllegalArgumentException` if another argument is out of range", () -> {
            for (int wrong : new int[] {-1, 7, MIN, MAX}) {
                s.dueThrows("grade " + wrong, Sentences.ARGUMENT, Games.full(), y -> y.whole(0, wrong, 0));
                s.dueThrows("grade " + wrong + " of no tiles", Sentences.ARGUMENT, Games.overByLaying(), y -> y.whole(0, wrong, 1));
                s.dueThrows("grade " + wrong + " of 14", Sentences.ARGUMENT, Games.withEmptyStock(), y -> y.whole(0, wrong, 0));
            }
            for (int wrong : new int[] {-1, 2, MIN, MAX}) {
                s.dueThrows("what " + wrong, Sentences.ARGUMENT, Games.full(), y -> y.whole(0, 0, wrong));
                s.dueThrows("what " + wrong + " of no tiles", Sentences.ARGUMENT, Games.overByLaying(), y -> y.whole(0, 6, wrong));
                s.dueThrows("what " + wrong + " of 14", Sentences.ARGUMENT, Games.withEmptyStock(), y -> y.whole(1, 6, wrong));
            }
        });
    }

    // ---- promise 25

    private void advice() {
        s.under("Promise 25: advice");
        s.test("Finds the tile that the player on the move should lay.", () -> {
            RustTiles x = new RustTiles();
            s.due("4-6 of player 0", 0, x.advice());
            x.draw();
            s.due("5-6 of player 1", 1, x.advice());
            s.dueNotUndoable("advice", RustTiles::new, y -> y.advice());
        });
        s.test("Returns of the tiles in the hand that can be laid somewhere the place of the one with the greatest grades"
            + " together,", () -> {
            RustTiles full = Games.behind("l4a<;l0b<;l3c<");
            // The rows are open with 0 2, 0 0 and 0 4; player 1 has 5-6 2-2 2-5 4-4.
            s.due("4-4, as 5-6 fits nowhere", 3, full.advice());
            full.lay(3, 2, 1);
            // The rows are open still; player 0 has 4-6 2-6 3-5.
            s.due("4-6", 0, full.advice());
            // The rows are open with 4 6, 3 2 and 0 0: 5-6 fits at the end 1 of one row alone.
            s.due("5-6 at an end 1", 0, Games.behind("l2b<;l0c<;l0a<;l2b>;d").advice());
            // The rows are open with 4 6, 3 6 and 0 0: of 2-2 2-5 4-4 the last fits at the end 0 of one row alone.
            s.due("4-4 at an end 0", 2, Games.behind("l2b<;l0c<;l0a<;l0b>;d").advice());
            s.due("the last place", 4, lastPlace().advice());
            RustTiles rusted = Games.with(1);
            rusted.draw();
            rusted.begin(2, 1);
            Games.draw(rusted, 2);
            // Player 0 has 4-5 2-5 3-4 0-3 0-1 3-3.
            s.due("as they are now", 0, rusted.advice());
        });
        s.test("of several the one with the most turns,", () -> {
            RustTiles x = Games.behind("l0a<;d");
            // Player 0 has 2-6 3-5 0-4 0-2, each a turn old.
            x.oil(0);
            s.due("3-5, as 2-6 was oiled", 1, x.advice());
            x.oil(1);
            s.due("2-6, as both were oiled", 0, x.advice());
            RustTiles drawn = Games.behind("l0a<;d;l3b<;d");
            s.due("grades go ahead of turns", 0, drawn.advice());
            RustTiles turned = Games.behind("l0a<;d;d;d");
            turned.oil(0);
            s.due("2-6 was oiled, but has no less grades than 3-5, which is older", 1, turned.advice());
        });
        s.test("of these the lowest place;", () -> {
            s.due("2-6 ahead of 3-5", 0, Games.behind("l0a<;d").advice());
            RustTiles noughts = Games.rustedAway();
            s.due("fourteen of 0-0, of which several are the oldest", 0, noughts.advice());
            noughts.oil(0);
            s.due("the second one then", 1, noughts.advice());
            for (int place = 1; place < 6; place++) {
                noughts.oil(place);
            }
            s.due("the first one drawn late", 6, noughts.advice());
        });
        s.test("NONE if there is none, or the game is over.", () -> {
            RustTiles none = Games.behind("l4a<;l0b<;l3c<;d;l0c>;d;l0a>;d");
            // The rows are open with 0 6, 0 0 and 0 6; player 0 has 3-5.
            s.due("none fits", -1, none.advice());
            s.due("over, though all fit", -1, Games.overByPassing().advice());
            s.due("over without tiles", -1, Games.overByLaying().advice());
            RustTiles x = Games.overByLaying();
            x.undo();
            s.due("not over again", 0, x.advice());
        });
    }

    /** The tile with the greatest grades is the last one of the hand. */
    private static RustTiles lastPlace() {
        for (int lot = 0; lot < 10000; lot++) {
            RustTiles x = new RustTiles();
            x.begin(2, lot);
            int best = 0;
            for (int place = 0; place < 4; place++) {
                best = Math.max(best, x.tileOf(x.hand(0, place), 0) + x.tileOf(x.hand(0, place), 1));
            }
            if (x.tileOf(x.hand(0, 4), 0) + x.tileOf(x.hand(0, 4), 1) > best) {
                return x;
            }
        }
        return new RustTiles();
    }

    // ---- promise 26

    private void commonest() {
        s.under("Promise 26: commonest");
        s.test("Finds the grade that stands most often on the halves in hands and in the stock.", () -> {
            RustTiles x = new RustTiles();
            x.lay(0, 0, 0);
            s.due("4 and 6 are laid: 5", 5, x.commonest());
            x.lay(1, 0, 1);
            s.due("5 and 6 are laid too: 3", 3, x.commonest());
            s.due("all are noughts: 0", 0, Games.rustedAway().commonest());
            RustTiles rusty = Games.with(1);
            rusty.draw();
            // In one hand twice 6 became 5, 5 became 4, twice 4 became 3, 2 became 1: 3 is there 10 times.
            s.due("as they are now: 3", 3, rusty.commonest());
        });
        s.test("Returns the grade, of several the greatest.", () -> {
            s.due("all eight times: 6", 6, new RustTiles().commonest());
            RustTiles x = new RustTiles();
            x.lay(1, 0, 0);
            s.due("2 and 6 seven times: 5", 5, x.commonest());
            RustTiles noughts = Games.with(1);
            Games.draw(noughts, 10);
            s.due("15 noughts and 14 ones: 0", 0, noughts.commonest());
            noughts.draw();
            s.due("16 noughts and 17 ones: 1", 1, noughts.commonest());
        });
    }

    // ---- promise 27

    private void dueShare(String what, double want, RustTiles x) {
        s.due(what, Double.doubleToLongBits(want), Double.doubleToLongBits(x.rustShare()));
    }

    private void rustShare() {
        s.under("Promise 27: rustShare");
        s.test("Returns how much has rusted.", () -> {
            dueShare("nothing", 0.0, new RustTiles());
            dueShare("all", 1.0, Games.rustedAway());
        });
        s.test("Returns the grades lost of all players in this game as a double, divided by 168.", () -> {
            RustTiles x = Games.with(1);
            x.draw();
            dueShare("6 of player 0", 6.0 / 168, x);
            x.draw();
            dueShare("and 5 of player 1", 11.0 / 168, x);
            x.begin(4, 1);
            dueShare("in this game", 0.0, x);
            RustTiles one = Games.aTileFromTheEnd();
            one.set(5);
            Games.write(one, "l0b<");
            one.run();
            dueShare("over", 0.0, one);
            RustTiles last = Games.aTileFromTheEnd();
            last.set(5);
            last.draw();
            dueShare("one grade of one tile", 1.0 / 168, last);
        });
    }

    // ---- promise 28

    private void digest() {
        s.under("Promise 28: digest");
        s.test("Computes a hash of the whole state.", () -> {
            s.due("of a new object", -3818730031204147288L, new RustTiles().digest());
            RustTiles x = new RustTiles();
            s.due("of it again", x.digest(), x.digest());
        });
        s.test("The hash starts at 3463.", () -> dueDigest("a new object", new RustTiles(), 0, 0, ""));
        s.test("For each value v of the following list, in order, the hash becomes 31 * hash + v, in long arithmetic with"
            + " overflow.", () -> dueDigest("behind two turns", Games.behind("l0a<;d"), 0, 0, ""));
        s.test("The values are: count(0) to count(11); the setting; for each tile its properties 0 to 6; for each player the"
            + " properties 0 to 6, the tiles of the hand in order, and for each grade longest, and whole with 0, then 1; for each"
            + " row its properties 0 to 3; the tiles of the stock in order; advice; commonest; the bits of rustShare (as"
            + " Double.doubleToLongBits);", () -> {
            dueDigest("a new object", new RustTiles(), 0, 0, "");
            dueDigest("four players", Games.begun(4), 0, 0, "");
            dueDigest("an empty stock", Games.withEmptyStock(), 0, 0, "");
            dueDigest("a hand without tiles", Games.overByLaying(), 0, 0, "");
            dueDigest("over by passing", Games.overByPassing(), 0, 0, "");
            dueDigest("all rusted away", Games.rustedAway(), 0, 0, "");
            dueDigest("ten tiles", withTen(), 0, 0, "");
            dueDigest("eleven tiles", withEleven(), 0, 0, "");
            dueDigest("something of all", Games.full(), 1, 1, "d;l27c>;");
            dueEachShare();
        });
        s.test("for each slot 1 if it has a snapshot, otherwise 0;", () -> {
            RustTiles second = new RustTiles();
            second.keep(1);
            dueDigest("slot 1", second, 0, 1, "");
            RustTiles first = new RustTiles();
            first.keep(0);
            dueDigest("slot 0", first, 1, 0, "");
            RustTiles both = new RustTiles();
            both.keep(1);
            both.keep(0);
            both.keep(1);
            dueDigest("both slots", both, 1, 1, "");
        });
        s.test("the length of the buffer and each of its character codes.", () -> {
            for (String text : new String[] {"", "!", "~", "d;p", "!~".repeat(30)}) {
                RustTiles x = new RustTiles();
                Games.write(x, text);
                dueDigest("the buffer " + text, x, 0, 0, text);
                RustTiles cleared = new RustTiles();
                Games.write(cleared, text);
                cleared.clearBuffer();
                cleared.append('d');
                dueDigest("the buffer cleared and written again", cleared, 0, 0, "d");
            }
        });
        s.test("Returns the hash.", () -> {
            RustTiles x = new RustTiles();
            long first = x.digest();
            x.draw();
            s.due("another state, another hash", 1, first != x.digest() ? 1 : 0);
            x.undo();
            s.due("the same state, the same hash", first, x.digest());
        });
    }

    /** The bits of many shares, from none on to 1: a new object for each, as a digest held beside all looks is many calls. */
    private void dueEachShare() {
        for (int setting = 1; setting <= 9; setting++) {
            for (int turns = 0; turns <= 36; turns++) {
                dueDigest(turns + " turns with the setting " + setting, Games.rusting(setting, turns), 0, 0, "");
            }
        }
    }

    // The slots and the buffer cannot be looked at, so they are told.
    private void dueDigest(String what, RustTiles x, int slot0, int slot1, String text) {
        s.due("digest of " + what, DigestOf.all(x, slot0, slot1, text), x.digest());
    }
}
