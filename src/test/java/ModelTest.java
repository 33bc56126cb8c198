import java.util.Arrays;
import java.util.HashMap;
import java.util.Map;

/** Long runs of calls, drawn by a fixed series of numbers, each answer beside that of PlainModel. */
public final class ModelTest {
    private static final int OBJECTS = 600;
    // What later calls of an object answer is free.
    private static final int CALLS = 512;
    private static final int[] ODD = {-1, 2, 3, 4, 5, 6, 7, 9, 10, 11, 12, 27, 28, 32, 33, 126, 127, 9999, 10000, -2,
        Integer.MIN_VALUE, Integer.MAX_VALUE, 1 << 20, -(1 << 30)};
    private static final String[] NAMES = {"begin", "lay", "draw", "pass", "oil", "set", "append", "clearBuffer",
        "firstError", "run", "keep", "goBack", "undo", "tileOf", "hand", "stock", "playerOf", "rowOf", "count", "setting",
        "whyNot", "longest", "whole", "advice", "commonest", "rustShare", "digest"};
    private static final int[] ARGUMENTS = {2, 3, 0, 0, 1, 1, 1, 0, 0, 0, 1, 1, 0, 2, 2, 1, 2, 2, 1, 0, 3, 2, 3, 0, 0, 0, 0};
    // What the document bounds each argument by, so that most of those drawn are fine.
    private static final int[][] BOUNDS = {{5, 10000}, {9, 3, 2}, {}, {}, {9}, {10}, {127}, {}, {}, {}, {2}, {2}, {}, {28, 7},
        {4, 15}, {19}, {4, 7}, {3, 4}, {12}, {}, {9, 3, 2}, {4, 7}, {4, 7, 2}, {}, {}, {}, {}};

    private final Checks checks = new Checks("ModelTest");
    private final Map<String, Integer> seen = new HashMap<>();
    private long series = 20261119;

    private RustTiles tiles;
    private PlainModel model;
    private StringBuilder story;
    private int calls;

    public static void main(String[] args) {
        ModelTest test = new ModelTest();
        for (int object = 0; object < OBJECTS && test.checks.isRight(); object++) {
            test.oneObject(object);
        }
        test.dueSeen();
        test.checks.end();
    }

    private int below(int bound) {
        series = series * 6364136223846793005L + 1442695040888963407L;
        return (int) ((series >>> 33) % bound);
    }

    private void oneObject(int object) {
        tiles = new RustTiles();
        model = new PlainModel();
        story = new StringBuilder("object " + object + ":");
        calls = 0;
        lookAtSome();
        call("set", 1 + below(object % 2 == 0 ? 9 : 2));
        call("begin", 2 + below(3), below(10000));
        int style = object % 5;
        while (calls < CALLS && checks.isRight()) {
            step(style);
            call("digest");
            if (below(20) == 0) {
                lookAtSome();
            }
        }
    }

    // The styles let games come far in several ways: by laying, by drawing much, by passing, and by anything.
    private void step(int style) {
        int chance = below(100);
        if (style == 4 && chance < 60) {
            anyCall();
        } else if (chance < 4) {
            anyCall();
        } else if (chance < 8) {
            writeAndRun();
        } else if (chance < 10) {
            oddText();
        } else if (chance < 13) {
            call(below(2) == 0 ? "keep" : "goBack", below(2));
        } else if (chance < 16) {
            undoSome();
        } else if (chance < 19) {
            call("oil", below(model.handSize() + 1));
        } else if (chance < 20) {
            call("set", 1 + below(9));
        } else if (model.isOver() && below(4) == 0) {
            call("begin", 2 + below(3), below(10000));
        } else {
            turn(style);
        }
    }

    private void turn(int style) {
        int chance = below(10);
        int laying = style == 0 ? 9 : style == 1 ? 6 : style == 2 ? 3 : 1;
        if (chance < laying) {
            layWhatFits();
        } else if (below(3) > 0) {
            call("draw");
        } else {
            call("pass");
        }
    }

    private void layWhatFits() {
        int from = below(6);
        int size = model.handSize();
        for (int i = 0; i < size * 6; i++) {
            int place = i / 6;
            int row = (from + i) % 6 / 2;
            int end = (from + i) % 2;
            if (model.call("whyNot", place, row, end).equals("0")) {
                call("lay", place, row, end);
                return;
            }
        }
        call("lay", below(size + 1), below(3), below(2));
        call("draw");
        call("pass");
    }

    private void undoSome() {
        for (int i = below(8); i >= 0; i--) {
            call("undo");
        }
    }

    private void writeAndRun() {
        call("clearBuffer");
        StringBuilder text = new StringBuilder();
        for (int i = below(below(4) == 0 ? 30 : 12); i >= 0; i--) {
            text.append(oneTurn()).append(i > 0 ? ";" : "");
        }
        if (below(6) == 0) {
            text.setCharAt(below(text.length()), "lpd;abc<>0123456789x".charAt(below(20)));
        }
        append(text.toString());
        call("firstError");
        call("run");
    }

    private String oneTurn() {
        int chance = below(6);
        if (chance < 2) {
            return "d";
        }
        if (chance == 2) {
            return "p";
        }
        return "l" + below(below(5) == 0 ? 28 : model.handSize() + 1) + "abc".charAt(below(3)) + "<>".charAt(below(2));
    }

    private void oddText() {
        StringBuilder text = new StringBuilder();
        for (int i = below(70); i >= 0; i--) {
            text.append("llldp;;abc<>0123456789289".charAt(below(25)));
        }
        append(text.toString());
        call("firstError");
        if (below(2) == 0) {
            call("run");
        }
    }

    private void append(String text) {
        for (char c : text.toCharArray()) {
            call("append", c);
        }
    }

    private void anyCall() {
        int which = below(NAMES.length);
        int[] a = new int[ARGUMENTS[which]];
        for (int i = 0; i < a.length; i++) {
            a[i] = below(5) == 0 ? ODD[below(ODD.length)] : below(BOUNDS[which][i]);
        }
        call(NAMES[which], a);
    }

    /** Looks that most often tell something, and now and then one from outside of what there is. */
    private void lookAtSome() {
        String[] looks = {"tileOf", "hand", "stock", "playerOf", "rowOf", "count", "whyNot", "longest", "whole"};
        for (String name : looks) {
            int which = Arrays.asList(NAMES).indexOf(name);
            call(name, below(BOUNDS[which][0]), ARGUMENTS[which] > 1 ? below(BOUNDS[which][1]) : 0,
                ARGUMENTS[which] > 2 ? below(BOUNDS[which][2]) : 0);
        }
        for (String name : new String[] {"setting", "advice", "commonest", "rustShare", "firstError"}) {
            call(name);
        }
    }

    private void call(String name, int... a) {
        if (!checks.isRight() || calls == CALLS) {
            return;
        }
        calls++;
        String want = model.call(name, a);
        String got = answerOf(name, a);
        StringBuilder told = new StringBuilder(" ").append(name).append(Arrays.toString(a));
        story.append(told).append('=').append(want);
        checks.due(told.toString().trim(), want, got);
        if (!checks.isRight()) {
            System.out.println(story);
        }
        count(name, want);
    }

    private String answerOf(String name, int[] a) {
        try {
            return answer(name, a);
        } catch (RuntimeException e) {
            return "throws." + e.getClass().getSimpleName();
        }
    }

    private String answer(String name, int[] a) {
        switch (name) {
            case "begin": return "" + tiles.begin(a[0], a[1]);
            case "lay": return "" + tiles.lay(a[0], a[1], a[2]);
            case "draw": return "" + tiles.draw();
            case "pass": return "" + tiles.pass();
            case "oil": return "" + tiles.oil(a[0]);
            case "set": return "" + tiles.set(a[0]);
            case "append": return "" + tiles.append(a[0]);
            case "clearBuffer": return "" + tiles.clearBuffer();
            case "firstError": return "" + tiles.firstError();
            case "run": return "" + tiles.run();
            case "keep": return "" + tiles.keep(a[0]);
            case "goBack": return "" + tiles.goBack(a[0]);
            case "undo": return "" + tiles.undo();
            case "tileOf": return "" + tiles.tileOf(a[0], a[1]);
            case "hand": return "" + tiles.hand(a[0], a[1]);
            case "stock": return "" + tiles.stock(a[0]);
            case "playerOf": return "" + tiles.playerOf(a[0], a[1]);
            case "rowOf": return "" + tiles.rowOf(a[0], a[1]);
            case "count": return "" + tiles.count(a[0]);
            case "setting": return "" + tiles.setting();
            case "whyNot": return "" + tiles.whyNot(a[0], a[1], a[2]);
            case "longest": return "" + tiles.longest(a[0], a[1]);
            case "whole": return "" + tiles.whole(a[0], a[1], a[2]);
            case "advice": return "" + tiles.advice();
            case "commonest": return "" + tiles.commonest();
            case "rustShare": return "" + tiles.rustShare();
            case "digest": return "" + tiles.digest();
            default: throw new AssertionError(name);
        }
    }

    // ---- what the runs came to: a run that meets nothing would prove nothing

    private void count(String name, String answer) {
        if (!name.equals("digest")) {
            seen.merge(name + "=" + answer, 1, Integer::sum);
        }
        for (int player = 0; name.equals("digest") && player < model.players(); player++) {
            if (model.sizeOf(player) >= 7 && model.sizeOf(player) <= 10) {
                for (int grade = 0; grade < 7; grade++) {
                    seen.merge("large whole=" + model.call("whole", player, grade, 0), 1, Integer::sum);
                }
            }
        }
    }

    private void dueSeen() {
        String[] due = {"lay=10", "lay=11", "lay=1", "lay=2", "lay=3", "draw=101", "draw=104", "pass=10", "pass=11", "pass=1",
            "pass=5", "oil=-1", "oil=0", "oil=7", "oil=throws.IndexOutOfBoundsException", "run=0", "run=1", "run=5",
            "run=throws.IllegalArgumentException", "goBack=throws.IllegalStateException", "undo=5", "undo=0",
            "undo=throws.IllegalStateException", "append=60", "append=throws.IllegalStateException", "firstError=60",
            "longest=-1", "longest=9", "whole=-1", "whole=0", "whole=1", "advice=-1", "advice=4", "commonest=0",
            "commonest=6", "large whole=1", "large whole=0"};
        for (String what : due) {
            checks.due("seen " + what, 1, seen.getOrDefault(what, 0) > 0 ? 1 : 0);
        }
    }
}
