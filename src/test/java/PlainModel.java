import java.util.ArrayList;
import java.util.Arrays;
import java.util.List;
import java.util.regex.Matcher;
import java.util.regex.Pattern;

/**
 * The document a second time, written as plainly as the Java library lets it be and otherwise than RustTiles:
 * lists that are copied whole, trains tried tile by tile, texts matched by a pattern. call() answers a text:
 * the number, or throws. and the exception's name.
 */
final class PlainModel {
    private static final Pattern TURNS = Pattern.compile("(l([0-9]|1[0-9]|2[0-7])[abc][<>]|d|p)(;(l([0-9]|1[0-9]|2[0-7])[abc][<>]|d|p))*");
    private static final int NONE = -1;

    private static final class Tile {
        int[] halves = new int[2];
        int where;
        int owner = NONE;
        int turns;
        int row = NONE;
        int rusted;

        Tile copy() {
            Tile tile = new Tile();
            tile.halves = halves.clone();
            tile.where = where;
            tile.owner = owner;
            tile.turns = turns;
            tile.row = row;
            tile.rusted = rusted;
            return tile;
        }

        boolean has(int grade) {
            return halves[0] == grade || halves[1] == grade;
        }

        int other(int grade) {
            return halves[0] == grade ? halves[1] : halves[0];
        }

        int grades() {
            return halves[0] + halves[1];
        }
    }

    private static final class State {
        List<Tile> tiles = new ArrayList<>();
        List<List<Integer>> hands = new ArrayList<>();
        List<Integer> stock = new ArrayList<>();
        List<List<Integer>> rows = new ArrayList<>();
        int[][] ends = new int[3][2];
        int[] lost = new int[4];
        int[] laid = new int[4];
        int[] drawn = new int[4];
        int mover;
        int turns;
        int passes;
        int refused;
        int lot;
        int setting = 3;

        State copy() {
            State s = new State();
            for (Tile tile : tiles) {
                s.tiles.add(tile.copy());
            }
            for (List<Integer> hand : hands) {
                s.hands.add(new ArrayList<>(hand));
            }
            s.stock.addAll(stock);
            for (List<Integer> row : rows) {
                s.rows.add(new ArrayList<>(row));
            }
            s.ends = new int[][] {ends[0].clone(), ends[1].clone(), ends[2].clone()};
            s.lost = lost.clone();
            s.laid = laid.clone();
            s.drawn = drawn.clone();
            s.mover = mover;
            s.turns = turns;
            s.passes = passes;
            s.refused = refused;
            s.lot = lot;
            s.setting = setting;
            return s;
        }
    }

    private State now = new State();
    private final List<State> saved = new ArrayList<>();
    private final State[] slots = new State[2];
    private String buffer = "";

    PlainModel() {
        beginGame(2, 1);
    }

    String call(String name, int... a) {
        try {
            return answer(name, a);
        } catch (IndexOutOfBoundsException e) {
            return "throws.IndexOutOfBoundsException";
        } catch (IllegalArgumentException e) {
            return "throws.IllegalArgumentException";
        } catch (IllegalStateException e) {
            return "throws.IllegalStateException";
        }
    }

    private String answer(String name, int[] a) {
        switch (name) {
            case "begin": return "" + begin(a[0], a[1]);
            case "lay": return "" + lay(a[0], a[1], a[2]);
            case "draw": save(); return "" + drawTurn();
            case "pass": save(); return "" + passTurn();
            case "oil": return "" + oil(a[0]);
            case "set": return "" + set(a[0]);
            case "append": return "" + append(a[0]);
            case "clearBuffer": int length = buffer.length(); buffer = ""; return "" + length;
            case "firstError": return "" + firstError();
            case "run": return "" + run();
            case "keep": argument(a[0] == 0 || a[0] == 1); slots[a[0]] = now.copy(); return "" + now.stock.size();
            case "goBack": return "" + goBack(a[0]);
            case "undo": return "" + undo();
            case "tileOf": index(inside(a[0], 28)); argument(inside(a[1], 7)); return "" + tileOf(a[0], a[1]);
            case "hand": player(a[0]); argument(a[1] >= 0); return "" + from(now.hands.get(a[0]), a[1]);
            case "stock": argument(a[0] >= 0); return "" + from(now.stock, a[0]);
            case "playerOf": player(a[0]); argument(inside(a[1], 7)); return "" + playerOf(a[0], a[1]);
            case "rowOf": index(inside(a[0], 3)); argument(inside(a[1], 4)); return "" + rowOf(a[0], a[1]);
            case "count": argument(inside(a[0], 12)); return "" + count(a[0]);
            case "setting": return "" + now.setting;
            case "whyNot": index(inside(a[1], 3)); argument(inside(a[2], 2)); return "" + reason(a[0], a[1], a[2]);
            case "longest": player(a[0]); argument(inside(a[1], 7)); return "" + longest(a[0], a[1]);
            case "whole": player(a[0]); argument(inside(a[1], 7) && inside(a[2], 2)); return "" + whole(a[0], a[1]);
            case "advice": return "" + advice();
            case "commonest": return "" + commonest();
            case "rustShare": return "" + share();
            case "digest": return "" + digest();
            default: throw new AssertionError(name);
        }
    }

    private static boolean inside(int value, int bound) {
        return value >= 0 && value < bound;
    }

    private static void index(boolean fine) {
        if (!fine) {
            throw new IndexOutOfBoundsException();
        }
    }

    private static void argument(boolean fine) {
        if (!fine) {
            throw new IllegalArgumentException();
        }
    }

    private static void state(boolean fine) {
        if (!fine) {
            throw new IllegalStateException();
        }
    }

    private void player(int player) {
        index(inside(player, now.hands.size()));
    }

    private static int from(List<Integer> list, int place) {
        return place < list.size() ? list.get(place) : NONE;
    }

    private void save() {
        saved.add(now.copy());
        if (saved.size() > 6) {
            saved.remove(0);
        }
    }

    // ---- the game

    private int begin(int players, int x) {
        argument(players >= 2 && players <= 4 && x >= 0 && x <= 9999);
        save();
        beginGame(players, x);
        return now.stock.size();
    }

    private void beginGame(int players, int x) {
        State s = new State();
        s.setting = now.setting;
        s.refused = now.refused;
        List<int[]> lots = new ArrayList<>();
        s.lot = x;
        for (int a = 0; a <= 6; a++) {
            for (int b = a; b <= 6; b++) {
                Tile tile = new Tile();
                tile.halves[0] = a;
                tile.halves[1] = b;
                s.lot = (s.lot * 421 + 1663) % 10000;
                lots.add(new int[] {s.lot, s.tiles.size()});
                s.tiles.add(tile);
            }
        }
        lots.sort((p, q) -> p[0] != q[0] ? p[0] - q[0] : p[1] - q[1]);
        for (int[] pair : lots) {
            s.stock.add(pair[1]);
        }
        for (int row = 0; row < 3; row++) {
            s.rows.add(new ArrayList<>());
        }
        now = s;
        for (int player = 0; player < players; player++) {
            s.hands.add(new ArrayList<>());
            for (int i = 0; i < 5; i++) {
                give(player);
            }
        }
    }

    private int give(int player) {
        int tile = now.stock.remove(0);
        now.hands.get(player).add(tile);
        now.tiles.get(tile).where = 1;
        now.tiles.get(tile).owner = player;
        return tile;
    }

    private boolean over() {
        return now.mover == NONE;
    }

    private List<Integer> moverHand() {
        return now.hands.get(now.mover);
    }

    private int reason(int place, int row, int end) {
        if (over()) {
            return 1;
        }
        if (!inside(place, moverHand().size())) {
            return 2;
        }
        return matches(now.tiles.get(moverHand().get(place)), row, end) ? 0 : 3;
    }

    private boolean matches(Tile tile, int row, int end) {
        return now.rows.get(row).isEmpty() || tile.has(now.ends[row][end]);
    }

    private int lay(int place, int row, int end) {
        index(inside(row, 3));
        argument(inside(end, 2));
        save();
        return layTurn(place, row, end);
    }

    private int layTurn(int place, int row, int end) {
        int reason = reason(place, row, end);
        if (reason != 0) {
            now.refused++;
            return reason;
        }
        int number = moverHand().remove(place);
        Tile tile = now.tiles.get(number);
        if (now.rows.get(row).isEmpty()) {
            now.ends[row] = tile.halves.clone();
        } else {
            now.ends[row][end] = tile.other(now.ends[row][end]);
        }
        now.rows.get(row).add(number);
        tile.where = 2;
        tile.row = row;
        now.laid[now.mover]++;
        now.passes = 0;
        return finishTurn();
    }

    private int drawTurn() {
        if (over() || now.stock.isEmpty()) {
            now.refused++;
            return over() ? 101 : 104;
        }
        now.drawn[now.mover]++;
        now.passes = 0;
        int tile = give(now.mover);
        finishTurn();
        return tile;
    }

    private int passTurn() {
        if (over() || !now.stock.isEmpty()) {
            now.refused++;
            return over() ? 1 : 5;
        }
        now.passes++;
        return finishTurn();
    }

    private int finishTurn() {
        now.turns++;
        for (int number : moverHand()) {
            Tile tile = now.tiles.get(number);
            tile.turns++;
            if (tile.turns % now.setting == 0 && tile.grades() > 0) {
                tile.halves[tile.halves[1] > tile.halves[0] ? 1 : 0]--;
                tile.rusted++;
                now.lost[now.mover]++;
            }
        }
        if (moverHand().isEmpty() || now.passes == now.hands.size()) {
            now.mover = NONE;
            return 11;
        }
        now.mover = (now.mover + 1) % now.hands.size();
        return 10;
    }

    private int oil(int place) {
        index(over() || inside(place, moverHand().size()));
        save();
        if (over()) {
            return NONE;
        }
        Tile tile = now.tiles.get(moverHand().get(place));
        int turns = tile.turns;
        tile.turns = 0;
        return turns;
    }

    private int set(int value) {
        argument(value >= 1 && value <= 9);
        save();
        int previous = now.setting;
        now.setting = value;
        return previous;
    }

    // ---- texts, snapshots

    private int append(int code) {
        argument(code >= 33 && code <= 126);
        state(buffer.length() < 60);
        buffer += (char) code;
        return buffer.length();
    }

    private int firstError() {
        for (int length = 1; length <= buffer.length(); length++) {
            Matcher matcher = TURNS.matcher(buffer.substring(0, length));
            if (!matcher.matches() && !matcher.hitEnd()) {
                return length - 1;
            }
        }
        return buffer.length();
    }

    private int run() {
        argument(TURNS.matcher(buffer).matches());
        save();
        String text = buffer;
        buffer = "";
        int made = 0;
        for (String turn : text.split(";")) {
            int refused = now.refused;
            if (turn.equals("d")) {
                drawTurn();
            } else if (turn.equals("p")) {
                passTurn();
            } else {
                int length = turn.length();
                int place = Integer.parseInt(turn.substring(1, length - 2));
                layTurn(place, "abc".indexOf(turn.charAt(length - 2)), "<>".indexOf(turn.charAt(length - 1)));
            }
            if (now.refused > refused) {
                break;
            }
            made++;
        }
        return made;
    }

    private int goBack(int slot) {
        argument(slot == 0 || slot == 1);
        state(slots[slot] != null);
        save();
        now = slots[slot].copy();
        return now.stock.size();
    }

    private int undo() {
        state(!saved.isEmpty());
        now = saved.remove(saved.size() - 1);
        return saved.size();
    }

    // ---- looks

    private int tileOf(int number, int what) {
        Tile tile = now.tiles.get(number);
        return new int[] {tile.halves[0], tile.halves[1], tile.where, tile.owner, tile.turns, tile.row, tile.rusted}[what];
    }

    private int held(int player) {
        return now.hands.get(player).stream().mapToInt(tile -> now.tiles.get(tile).grades()).sum();
    }

    private int ends(int player) {
        int ends = 0;
        for (int row = 0; row < 3; row++) {
            for (int end = 0; end < (now.rows.get(row).isEmpty() ? 1 : 2); end++) {
                int theRow = row;
                int theEnd = end;
                if (now.hands.get(player).stream().anyMatch(tile -> matches(now.tiles.get(tile), theRow, theEnd))) {
                    ends++;
                }
            }
        }
        return ends;
    }

    private int playerOf(int player, int what) {
        return new int[] {now.hands.get(player).size(), held(player), now.lost[player], held(player) + now.lost[player],
            now.laid[player], now.drawn[player], ends(player)}[what];
    }

    private int rowOf(int row, int what) {
        List<Integer> tiles = now.rows.get(row);
        if (tiles.isEmpty()) {
            return what == 0 ? 0 : NONE;
        }
        return new int[] {tiles.size(), now.ends[row][0], now.ends[row][1], tiles.get(tiles.size() - 1)}[what];
    }

    private int winner() {
        int best = NONE;
        for (int player = now.hands.size() - 1; player >= 0 && over(); player--) {
            if (best == NONE || playerOf(player, 3) <= playerOf(best, 3)) {
                best = player;
            }
        }
        return best;
    }

    private int lostByAll() {
        return Arrays.stream(now.lost).sum();
    }

    private int count(int what) {
        int held = now.hands.stream().mapToInt(List::size).sum();
        return new int[] {now.hands.size(), now.mover, now.stock.size(), held, Arrays.stream(now.laid).sum(), now.turns,
            now.passes, lostByAll(), winner(), now.refused, now.lot, saved.size()}[what];
    }

    // ---- what would be

    private List<Tile> handOf(int player) {
        List<Tile> tiles = new ArrayList<>();
        for (int number : now.hands.get(player)) {
            tiles.add(now.tiles.get(number));
        }
        return tiles;
    }

    private int longest(int player, int grade) {
        List<Tile> tiles = handOf(player);
        return tiles.size() > 10 ? NONE : longestOf(tiles, grade);
    }

    private int whole(int player, int grade) {
        List<Tile> tiles = handOf(player);
        return tiles.size() > 10 ? NONE : longestOf(tiles, grade) == tiles.size() ? 1 : 0;
    }

    private static int longestOf(List<Tile> tiles, int grade) {
        int best = 0;
        for (int i = 0; i < tiles.size() && best < tiles.size(); i++) {
            Tile tile = tiles.get(i);
            if (tile.has(grade) && !triedBefore(tiles, i)) {
                List<Tile> rest = new ArrayList<>(tiles);
                rest.remove(i);
                best = Math.max(best, 1 + longestOf(rest, tile.other(grade)));
            }
        }
        return best;
    }

    private static boolean triedBefore(List<Tile> tiles, int i) {
        Tile tile = tiles.get(i);
        for (Tile earlier : tiles.subList(0, i)) {
            if (earlier.has(tile.halves[0]) && earlier.other(tile.halves[0]) == tile.halves[1]) {
                return true;
            }
        }
        return false;
    }

    private int advice() {
        int best = NONE;
        int bestWorth = NONE;
        for (int place = 0; !over() && place < moverHand().size(); place++) {
            Tile tile = now.tiles.get(moverHand().get(place));
            int worth = tile.grades() * 100000 + tile.turns;
            boolean fits = false;
            for (int row = 0; row < 3; row++) {
                fits = fits || reason(place, row, 0) == 0 || reason(place, row, 1) == 0;
            }
            if (fits && worth > bestWorth) {
                best = place;
                bestWorth = worth;
            }
        }
        return best;
    }

    private int commonest() {
        int[] halves = new int[7];
        for (Tile tile : now.tiles) {
            if (tile.where != 2) {
                halves[tile.halves[0]]++;
                halves[tile.halves[1]]++;
            }
        }
        int best = 6;
        for (int grade = 5; grade >= 0; grade--) {
            best = halves[grade] > halves[best] ? grade : best;
        }
        return best;
    }

    private double share() {
        return lostByAll() / 168.0;
    }

    private long digest() {
        List<Long> values = new ArrayList<>();
        addAll(values, 12, what -> count(what));
        values.add((long) now.setting);
        for (int i = 0; i < 28; i++) {
            int tile = i;
            addAll(values, 7, what -> tileOf(tile, what));
        }
        for (int i = 0; i < now.hands.size(); i++) {
            int player = i;
            addAll(values, 7, what -> playerOf(player, what));
            addAll(values, now.hands.get(player).size(), place -> now.hands.get(player).get(place));
            for (int grade = 0; grade < 7; grade++) {
                values.add((long) longest(player, grade));
                values.add((long) whole(player, grade));
                values.add((long) whole(player, grade));
            }
        }
        for (int i = 0; i < 3; i++) {
            int row = i;
            addAll(values, 4, what -> rowOf(row, what));
        }
        addAll(values, now.stock.size(), place -> now.stock.get(place));
        values.add((long) advice());
        values.add((long) commonest());
        values.add(Double.doubleToLongBits(share()));
        addAll(values, 2, slot -> slots[slot] == null ? 0 : 1);
        values.add((long) buffer.length());
        addAll(values, buffer.length(), i -> buffer.charAt(i));
        long hash = 3463;
        for (long value : values) {
            hash = 31 * hash + value;
        }
        return hash;
    }

    private static void addAll(List<Long> values, int bound, java.util.function.IntUnaryOperator of) {
        for (int i = 0; i < bound; i++) {
            values.add((long) of.applyAsInt(i));
        }
    }

    // ---- what the runs need to know of it

    boolean isOver() {
        return over();
    }

    int handSize() {
        return over() ? 0 : moverHand().size();
    }

    int players() {
        return now.hands.size();
    }

    int sizeOf(int player) {
        return now.hands.get(player).size();
    }
}
