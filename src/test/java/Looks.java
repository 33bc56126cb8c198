import java.util.LinkedHashMap;
import java.util.Map;

/** All that can be looked at in an object, by the call that tells it: at most some 330 calls. */
final class Looks {
    private Looks() {
    }

    static Map<String, Long> of(RustTiles x) {
        Map<String, Long> looks = new LinkedHashMap<>();
        for (int what = 0; what < 12; what++) {
            looks.put("count(" + what + ")", (long) x.count(what));
        }
        looks.put("setting()", (long) x.setting());
        for (int tile = 0; tile < 28; tile++) {
            for (int what = 0; what < 7; what++) {
                looks.put("tileOf(" + tile + ", " + what + ")", (long) x.tileOf(tile, what));
            }
        }
        int players = x.count(0);
        for (int player = 0; player < players; player++) {
            addPlayer(looks, x, player);
        }
        for (int row = 0; row < 3; row++) {
            for (int what = 0; what < 4; what++) {
                looks.put("rowOf(" + row + ", " + what + ")", (long) x.rowOf(row, what));
            }
        }
        int left = x.count(2);
        for (int place = 0; place < left; place++) {
            looks.put("stock(" + place + ")", (long) x.stock(place));
        }
        looks.put("advice()", (long) x.advice());
        looks.put("commonest()", (long) x.commonest());
        looks.put("rustShare()", Double.doubleToLongBits(x.rustShare()));
        looks.put("firstError()", (long) x.firstError());
        return looks;
    }

    private static void addPlayer(Map<String, Long> looks, RustTiles x, int player) {
        for (int what = 0; what < 7; what++) {
            looks.put("playerOf(" + player + ", " + what + ")", (long) x.playerOf(player, what));
        }
        int held = x.playerOf(player, 0);
        for (int place = 0; place < held; place++) {
            looks.put("hand(" + player + ", " + place + ")", (long) x.hand(player, place));
        }
        for (int grade = 0; grade < 7; grade++) {
            looks.put("longest(" + player + ", " + grade + ")", (long) x.longest(player, grade));
        }
    }
}
