import java.util.ArrayList;
import java.util.List;

/**
 * Objects that were brought to a known state. The game of a new object, and of begin(players, 1): the order of the tiles is
 * 24=4-6 17=2-6 20=3-5 4=0-4 2=0-2, 0=0-0 26=5-6 13=2-2 16=2-5 22=4-4, 19=3-4 9=1-3 25=5-5 23=4-5 3=0-3, 21=3-6 27=6-6
 * 18=3-3 14=2-3 10=1-4, 8=1-2 15=2-4 6=0-6 1=0-1 12=1-6 5=0-5 11=1-5 7=1-1: five for each player, the rest are the stock.
 */
final class Games {
    static final int[] ORDER = {24, 17, 20, 4, 2, 0, 26, 13, 16, 22, 19, 9, 25, 23, 3, 21, 27, 18, 14, 10, 8, 15, 6, 1, 12, 5,
        11, 7};

    private Games() {
    }

    /** The lot drawn behind this one. */
    static int drawn(int lot) {
        return (lot * 421 + 1663) % 10000;
    }

    /** The order of the stock when a game begins with this lot. */
    static List<Integer> orderBy(int x) {
        List<Integer> order = new ArrayList<>();
        int[] lots = new int[28];
        int lot = x;
        for (int tile = 0; tile < 28; tile++) {
            lot = drawn(lot);
            lots[tile] = lot;
            order.add(tile);
        }
        order.sort((p, q) -> lots[p] != lots[q] ? lots[p] - lots[q] : p - q);
        return order;
    }

    static void write(RustTiles x, String text) {
        for (char c : text.toCharArray()) {
            x.append(c);
        }
    }

    static void draw(RustTiles x, int times) {
        for (int i = 0; i < times; i++) {
            x.draw();
        }
    }

    /** A new object with this setting. */
    static RustTiles with(int setting) {
        RustTiles x = new RustTiles();
        x.set(setting);
        return x;
    }

    /** A new object that rusts late, behind these turns. */
    static RustTiles behind(String turns) {
        RustTiles x = with(9);
        write(x, turns);
        x.run();
        return x;
    }

    static RustTiles begun(int players) {
        RustTiles x = new RustTiles();
        x.begin(players, 1);
        return x;
    }

    /** Player 0 has laid all tiles but 20=3-5, while player 1 drew: the row 0 is open with 4 and 4, the others are empty. */
    static RustTiles aTileFromTheEnd() {
        return behind("l0a<;d;l0a>;d;l2a>;d;l1a>;d");
    }

    static RustTiles overByLaying() {
        RustTiles x = aTileFromTheEnd();
        x.lay(0, 1, 0);
        return x;
    }

    static RustTiles withEmptyStock() {
        RustTiles x = with(9);
        draw(x, 18);
        return x;
    }

    static RustTiles withEmptyStock(int players) {
        RustTiles x = begun(players);
        draw(x, 28 - 5 * players);
        return x;
    }

    static RustTiles overByPassing() {
        RustTiles x = withEmptyStock();
        x.pass();
        x.pass();
        return x;
    }

    /** All grades of all tiles have rusted away, and the game is not over: player 1 laid what was 0-0 then. */
    static RustTiles rustedAway() {
        return rusting(1, 36);
    }

    /** Up to 36 turns by the lot 0: 18 tiles drawn, then player 0 passes and player 1 lays the first tile, if it fits. */
    static RustTiles rusting(int setting, int turns) {
        RustTiles x = with(setting);
        x.begin(2, 0);
        for (int turn = 0; turn < turns; turn++) {
            if (turn < 18) {
                x.draw();
            } else if (turn % 2 == 0) {
                x.pass();
            } else {
                x.lay(0, 0, 0);
            }
        }
        return x;
    }

    /** Something of all: two snapshots, saved states, turns, passes, refusals, rust, and a text in the buffer. */
    static RustTiles full() {
        RustTiles x = new RustTiles();
        x.set(2);
        x.draw();
        x.keep(0);
        x.begin(3, 77);
        x.pass();
        x.lay(0, 1, 1);
        draw(x, 13);
        x.oil(3);
        x.pass();
        x.keep(1);
        x.pass();
        write(x, "d;l27c>;");
        return x;
    }
}
