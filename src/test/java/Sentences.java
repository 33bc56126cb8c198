import java.io.IOException;
import java.nio.file.Files;
import java.nio.file.Path;
import java.util.ArrayList;
import java.util.LinkedHashMap;
import java.util.List;
import java.util.Map;

/**
 * Tests that are named by the sentence of the document that they hold the class to: by its heading (a promise, or what
 * stands under "Terms") and its own words. At the end each sentence must have been named, and each name must stand there.
 */
final class Sentences {
    static final Class<IndexOutOfBoundsException> INDEX = IndexOutOfBoundsException.class;
    static final Class<IllegalArgumentException> ARGUMENT = IllegalArgumentException.class;
    static final Class<IllegalStateException> STATE = IllegalStateException.class;
    static final int MIN = Integer.MIN_VALUE;
    static final int MAX = Integer.MAX_VALUE;

    private static final Path DOCUMENT = Path.of("../shared/DOC.md");
    private static final String HEADING_WITHOUT_MARK = "Snapshots, undo";
    private static final List<String> NOT_TO_BE_TESTED = List.of("RustTiles", "What it is", "The public face", "Not promised");

    interface Test {
        void run();
    }

    interface Made {
        RustTiles game();
    }

    interface Turn {
        long on(RustTiles x);
    }

    private final Checks checks;
    private final Map<String, List<String>> document = read();
    private final Map<String, List<String>> named = new LinkedHashMap<>();
    private String heading = "";
    private String sentence = "";

    Sentences(String name) {
        checks = new Checks(name);
    }

    // ---- names

    void under(String heading) {
        this.heading = heading;
        checks.due("the heading " + heading + " stands in the document", 1, document.containsKey(heading) ? 1 : 0);
        named.putIfAbsent(heading, new ArrayList<>());
    }

    void test(String sentence, Test test) {
        name(sentence);
        try {
            test.run();
        } catch (RuntimeException | StackOverflowError e) {
            checks.due(told("the test"), "ends", "throws " + e + " at " + e.getStackTrace()[0]);
        }
    }

    /** A sentence that says nothing that a call could break. */
    void plain(String sentence) {
        name(sentence);
    }

    private void name(String sentence) {
        this.sentence = sentence;
        named.get(heading).add(sentence);
        boolean stands = document.getOrDefault(heading, List.of()).stream().anyMatch(line -> line.contains(sentence));
        checks.due(told("the sentence stands in the document"), 1, stands ? 1 : 0);
    }

    private String told(String what) {
        return "[" + heading + "] \"" + sentence + "\": " + what;
    }

    void end() {
        for (Map.Entry<String, List<String>> section : document.entrySet()) {
            for (String line : section.getValue()) {
                for (String part : line.split("(?<=\\.)\\s+")) {
                    heading = section.getKey();
                    sentence = part;
                    checks.due(told("has a test"), 1, NOT_TO_BE_TESTED.contains(heading) || isNamed(part) ? 1 : 0);
                }
            }
        }
        checks.end();
    }

    private boolean isNamed(String part) {
        return named.getOrDefault(heading, List.of()).stream().anyMatch(name -> part.contains(name) || name.contains(part));
    }

    private static Map<String, List<String>> read() {
        Map<String, List<String>> sections = new LinkedHashMap<>();
        String heading = "";
        try {
            for (String line : Files.readAllLines(DOCUMENT)) {
                if (line.startsWith("#") || line.equals(HEADING_WITHOUT_MARK)) {
                    heading = line.replaceFirst("^#+ ", "");
                    sections.put(heading, new ArrayList<>());
                } else if (!line.isBlank() && sections.containsKey(heading)) {
                    sections.get(heading).add(line.trim());
                }
            }
        } catch (IOException e) {
            throw new IllegalStateException("no document at " + DOCUMENT.toAbsolutePath(), e);
        }
        return sections;
    }

    // ---- answers

    void due(String what, long want, long got) {
        checks.due(told(what), want, got);
    }

    /** A call that throws leaves all as it was: the buffer, the slots and the saved states, too. */
    void dueThrows(String what, Class<? extends RuntimeException> want, RustTiles x, Turn call) {
        long before = x.digest();
        checks.thrown(told(what), want, () -> call.on(x));
        due(what + " leaves all as it was", before, x.digest());
    }

    /** All that can be looked at is the same for both, but for the looks told. */
    void dueAlike(String what, RustTiles want, RustTiles got, String... besides) {
        Map<String, Long> wants = Looks.of(want);
        Map<String, Long> gots = Looks.of(got);
        for (String look : besides) {
            wants.remove(look);
            gots.remove(look);
        }
        checks.due(told(what + ", looks"), wants.keySet().toString(), gots.keySet().toString());
        for (Map.Entry<String, Long> look : wants.entrySet()) {
            due(what + ", " + look.getKey(), look.getValue(), gots.getOrDefault(look.getKey(), Long.MIN_VALUE));
        }
    }

    /** A refused call answers the reason, counts itself and saves a state; all else stays, and undo takes it back. */
    void dueRefused(String what, long reason, Made made, Turn call) {
        RustTiles before = made.game();
        RustTiles behind = made.game();
        due(what, reason, call.on(behind));
        dueAlike(what + " leaves the rest as it was", before, behind, "count(9)", "count(11)");
        due(what + " is counted", made.game().count(9) + 1, behind.count(9));
        dueUndoable(what, made, call);
    }

    /** A call marked "undoable" saves one state, and undo brings all back but the buffer. */
    void dueUndoable(String what, Made made, Turn call) {
        RustTiles x = made.game();
        int saved = x.count(11);
        call.on(x);
        due(what + " saves one state", Math.min(saved + 1, 6), x.count(11));
        x.undo();
        dueAlike(what + " is undone", made.game(), x, "count(11)", "firstError()");
    }

    /** A call that is not marked "undoable" saves no state. */
    void dueNotUndoable(String what, Made made, Turn call) {
        RustTiles x = made.game();
        int saved = x.count(11);
        call.on(x);
        due(what + " saves no state", saved, x.count(11));
    }

    void dueHand(RustTiles x, int player, int... tiles) {
        for (int place = 0; place < tiles.length; place++) {
            due("hand of " + player + " at " + place, tiles[place], x.hand(player, place));
        }
        due("behind the hand of " + player, -1, x.hand(player, tiles.length));
    }

    void dueGrades(RustTiles x, int tile, int first, int second) {
        due("first half of " + tile, first, x.tileOf(tile, 0));
        due("second half of " + tile, second, x.tileOf(tile, 1));
    }

    void dueRow(RustTiles x, int row, int tiles, int end0, int end1, int last) {
        due("row " + row + " tiles", tiles, x.rowOf(row, 0));
        due("row " + row + " end 0", end0, x.rowOf(row, 1));
        due("row " + row + " end 1", end1, x.rowOf(row, 2));
        due("row " + row + " last", last, x.rowOf(row, 3));
    }

    void dueCounts(RustTiles x, int... counts) {
        for (int what = 0; what < counts.length; what++) {
            due("count(" + what + ")", counts[what], x.count(what));
        }
    }
}
