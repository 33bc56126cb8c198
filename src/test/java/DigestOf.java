/** The digest as the document tells it, put together from what all other calls answer. */
final class DigestOf {
    private DigestOf() {
    }

    static long all(RustTiles x, int slot0, int slot1, String text) {
        long hash = 3463;
        for (int what = 0; what < 12; what++) {
            hash = 31 * hash + x.count(what);
        }
        hash = 31 * hash + x.setting();
        for (int tile = 0; tile < 28; tile++) {
            for (int what = 0; what < 7; what++) {
                hash = 31 * hash + x.tileOf(tile, what);
            }
        }
        for (int player = 0, players = x.count(0); player < players; player++) {
            hash = behindPlayer(hash, x, player);
        }
        for (int row = 0; row < 3; row++) {
            for (int what = 0; what < 4; what++) {
                hash = 31 * hash + x.rowOf(row, what);
            }
        }
        for (int place = 0, left = x.count(2); place < left; place++) {
            hash = 31 * hash + x.stock(place);
        }
        hash = 31 * hash + x.advice();
        hash = 31 * hash + x.commonest();
        hash = 31 * hash + Double.doubleToLongBits(x.rustShare());
        hash = 31 * hash + slot0;
        hash = 31 * hash + slot1;
        hash = 31 * hash + text.length();
        for (char c : text.toCharArray()) {
            hash = 31 * hash + c;
        }
        return hash;
    }

    private static long behindPlayer(long before, RustTiles x, int player) {
        long hash = before;
        for (int what = 0; what < 7; what++) {
            hash = 31 * hash + x.playerOf(player, what);
        }
        for (int place = 0, held = x.playerOf(player, 0); place < held; place++) {
            hash = 31 * hash + x.hand(player, place);
        }
        for (int grade = 0; grade < 7; grade++) {
            hash = 31 * hash + x.longest(player, grade);
            hash = 31 * hash + x.whole(player, grade, 0);
            hash = 31 * hash + x.whole(player, grade, 1);
        }
        return hash;
    }
}
