/** The boundary cases that promises 8 to 14 name: append, clearBuffer, firstError, run, keep, goBack, undo. */
final class EdgesOfTexts {
    private static final int MIN = Sentences.MIN;
    private static final int MAX = Sentences.MAX;

    private final Sentences s;

    EdgesOfTexts(Sentences s) {
        this.s = s;
    }

    void all() {
        append();
        clearBuffer();
        firstError();
        run();
        runRefused();
        keep();
        goBack();
        undo();
    }

    private static RustTiles with(String text) {
        RustTiles x = new RustTiles();
        Games.write(x, text);
        return x;
    }

    // ---- promise 8

    private void append() {
        s.under("Promise 8: append");
        s.test("Appends a character to the buffer.", () -> {
            RustTiles x = with("d;d");
            s.due("the characters in their order", 3, x.firstError());
            x.append('x');
            s.due("behind the others", 3, x.firstError());
            s.dueNotUndoable("append", Games::full, y -> y.append('d'));
            RustTiles twin = Games.overByLaying();
            RustTiles over = Games.overByLaying();
            over.append('d');
            s.dueAlike("append", twin, over, "firstError()");
        });
        s.test("- `code`: the character code, 33 to 126", () -> {
            for (int code = 33; code <= 126; code++) {
                RustTiles x = new RustTiles();
                long before = x.digest();
                s.due("append(" + code + ")", 1, x.append(code));
                // The digest ends with the length and the codes: it was 0, and is 1 and this code.
                s.due("the code that is kept", (before + 1) * 31 + code, x.digest());
            }
        });
        s.test("Returns the new length of the buffer.", () -> {
            RustTiles x = new RustTiles();
            for (int length = 1; length <= 60; length++) {
                s.due("length", length, x.append('d'));
            }
            x.clearBuffer();
            s.due("behind clearing", 1, x.append('p'));
            x.run();
            s.due("behind a run", 1, x.append('p'));
            x.append('p');
            s.dueThrows("a run that throws", Sentences.ARGUMENT, x, y -> y.run());
            s.due("behind a run that throws", 3, x.append('p'));
        });
        s.test("Throws `IllegalArgumentException` if code is not 33 to 126", () -> {
            for (int code : new int[] {32, 127, 0, -1, 33 + 256, 33 + 65536, MIN, MAX}) {
                s.dueThrows("append(" + code + ")", Sentences.ARGUMENT, with("d"), y -> y.append(code));
                s.dueThrows("append(" + code + ") to a full buffer", Sentences.ARGUMENT, with("d".repeat(60)), y -> y.append(code));
            }
        });
        s.test("Throws `IllegalStateException` if the buffer has 60 characters", () -> {
            RustTiles x = with("d".repeat(59));
            s.due("with 59 characters", 60, x.append(126));
            s.dueThrows("with 60, the least code", Sentences.STATE, x, y -> y.append(33));
            s.dueThrows("with 60, the greatest code", Sentences.STATE, x, y -> y.append(126));
            s.due("60 characters still", 60, x.clearBuffer());
            s.due("room again", 1, x.append(126));
        });
    }

    // ---- promise 9

    private void clearBuffer() {
        s.under("Promise 9: clearBuffer");
        s.test("Clears the buffer.", () -> {
            RustTiles x = with("x");
            x.clearBuffer();
            s.due("no error", 0, x.firstError());
            s.dueThrows("no turns", Sentences.ARGUMENT, x, y -> y.run());
            s.dueNotUndoable("clearBuffer", Games::full, y -> y.clearBuffer());
            RustTiles again = with("d".repeat(60));
            again.clearBuffer();
            again.append('d');
            s.due("nothing is left behind what is written then", 1, again.run());
            s.due("one turn", 1, again.count(5));
            RustTiles part = with("l0a<");
            part.clearBuffer();
            Games.write(part, "l0");
            s.dueThrows("nor is a turn made whole by it", Sentences.ARGUMENT, part, y -> y.run());
            RustTiles full = Games.full();
            full.clearBuffer();
            s.dueAlike("clearBuffer", Games.full(), full, "firstError()");
            full.undo();
            s.due("undo does not bring the buffer back", 0, full.clearBuffer());
        });
        s.test("Returns the length that it had.", () -> {
            s.due("of nothing", 0, new RustTiles().clearBuffer());
            s.due("of one", 1, with("~").clearBuffer());
            s.due("of 60", 60, with("~".repeat(60)).clearBuffer());
            RustTiles x = with("d;");
            s.due("of two", 2, x.clearBuffer());
            s.due("of nothing then", 0, x.clearBuffer());
        });
    }

    // ---- promise 10

    private void firstError() {
        s.under("Promise 10: firstError");
        s.test("Finds the first syntax error of the buffer.", () -> {
            RustTiles x = with("d;l5b<;x;x");
            s.due("the first of two", 7, x.firstError());
            s.due("the same again", 7, x.firstError());
            s.due("the buffer stays", 10, x.clearBuffer());
            s.dueNotUndoable("firstError", Games::full, y -> y.firstError());
        });
        s.test("Returns the index of the first character that is a syntax error;", () -> {
            s.due("the first character", 0, with("x").firstError());
            s.due("the second character", 1, with("dd").firstError());
            s.due("the last of 60", 59, with("d;".repeat(29) + "d" + "x").firstError());
            s.due("the first of 60", 0, with(";d".repeat(30)).firstError());
            s.due("a place behind 27", 2, with("l28a<").firstError());
            s.due("a place of three digits", 3, with("l100").firstError());
            s.due("a leading zero", 2, with("l07a<").firstError());
            s.due("a letter behind c", 2, with("l0d<").firstError());
            s.due("a capital", 0, with("D").firstError());
        });
        s.test("the length of the buffer if there is none.", () -> {
            s.due("of nothing", 0, new RustTiles().firstError());
            s.due("of a whole turn", 1, with("d").firstError());
            s.due("of a part of a turn", 2, with("l2").firstError());
            s.due("of turns and what may go on", 2, with("d;").firstError());
            s.due("of 60", 60, with("d;".repeat(30)).firstError());
            s.due("of 60 with part of a place", 60, with("d;".repeat(29) + "l2").firstError());
        });
    }

    // ---- promise 11

    private void run() {
        s.under("Promise 11: run");
        s.test("Makes the turns in the buffer as lay(), draw() and pass() do, one after the other,", () -> {
            RustTiles x = Games.behind("l0a<;l4a<;d;d;l0c>;l2c<");
            RustTiles twin = Games.with(9);
            twin.set(9);
            twin.lay(0, 0, 0);
            twin.lay(4, 0, 0);
            twin.draw();
            twin.draw();
            twin.lay(0, 2, 1);
            twin.lay(2, 2, 0);
            s.dueAlike("six turns", twin, x, "count(11)");
            RustTiles passes = Games.withEmptyStock();
            Games.write(passes, "p;l13a<;p;p");
            s.due("passes", 4, passes.run());
            s.dueAlike("over", overBehind(), passes, "count(11)");
            RustTiles places = Games.withEmptyStock();
            Games.write(places, "l13a<;l10b>;l9c<;l12a<;l27b<");
            s.due("places of two digits, and no place 27", 4, places.run());
            s.dueRow(places, 0, 2, 1, 5, 7);
            s.dueRow(places, 1, 1, 2, 4, 15);
            s.dueRow(places, 2, 1, 2, 3, 14);
        });
        s.test("and clears the buffer.", () -> {
            RustTiles made = with("d;d");
            made.run();
            s.due("all made", 0, made.clearBuffer());
            RustTiles part = with("d;p;d");
            part.run();
            s.due("a part made", 0, part.clearBuffer());
            RustTiles none = with("p");
            none.run();
            s.due("none made", 0, none.clearBuffer());
            RustTiles undone = with("d");
            undone.run();
            undone.undo();
            s.due("undo does not bring the buffer back", 0, undone.clearBuffer());
        });
        s.test("Undoable, as one call, also if none is made.", () -> {
            s.dueUndoable("thirty turns", () -> with("d" + ";d".repeat(29)), x -> x.run());
            s.dueUndoable("none made", () -> with("p;d"), x -> x.run());
            s.dueUndoable("a part made", () -> with("d;d;p;d"), x -> x.run());
            RustTiles x = with("d;d;d;d;d;d;d;d");
            x.run();
            s.due("one saved state", 1, x.count(11));
            s.due("none left", 0, x.undo());
            s.due("back at the beginning", 0, x.count(5));
        });
        s.test("Returns how many are made.", () -> {
            s.due("one", 1, with("d").run());
            s.due("none", 0, with("p").run());
            s.due("all of 30, of which 18 can be made", 18, with("d;".repeat(29) + "d").run());
            s.due("two", 2, with("l0a<;l4a<").run());
        });
        s.test("Throws `IllegalArgumentException` if the buffer does not tell turns as a text", () -> {
            for (String text : new String[] {"", "l", "l0", "l0a", "d;", "d;d;", "x", ";", "dd", "l28a<", "l00a<", "d_d",
                "d;".repeat(30), "~".repeat(60)}) {
                s.dueThrows("run of " + text, Sentences.ARGUMENT, with(text), y -> y.run());
            }
            RustTiles over = Games.overByLaying();
            s.dueThrows("run of nothing when over", Sentences.ARGUMENT, over, y -> y.run());
        });
    }

    private static RustTiles overBehind() {
        RustTiles x = Games.withEmptyStock();
        x.pass();
        x.lay(13, 0, 0);
        x.pass();
        x.pass();
        return x;
    }

    private void runRefused() {
        s.under("Promise 11: run");
        s.test("up to the first one that is refused (and counted so),", () -> {
            dueRun("p;d", RustTiles::new, 0);
            dueRun("d;l9a<;d", RustTiles::new, 1);
            dueRun("l0a<;l0a<;d", RustTiles::new, 1);
            dueRun("d;d;d;d;d;p", RustTiles::new, 5);
            dueRun("d;p", Games::withEmptyStock, 0);
            dueRun("p;d;p", Games::withEmptyStock, 1);
            dueRun("p;p;p;p", Games::withEmptyStock, 2);
            dueRun("d;p;l0a<", Games::overByLaying, 0);
            dueRun("p", Games::overByPassing, 0);
            dueRun("l0a<", Games::overByPassing, 0);
            dueRun("l27a<;d", RustTiles::new, 0);
            dueRun("l0b<;d;d", Games::aTileFromTheEnd, 1);
        });
    }

    /** The turns that are made, then one that is refused; the rest of the text does nothing. */
    private void dueRun(String text, Sentences.Made state, int made) {
        RustTiles x = state.game();
        int refused = x.count(9);
        int turns = x.count(5);
        Games.write(x, text);
        s.due(text + " makes", made, x.run());
        s.due(text + " is counted", refused + 1, x.count(9));
        s.due(text + " turns", turns + made, x.count(5));
    }

    // ---- promise 12

    private void keep() {
        s.under("Promise 12: keep");
        s.test("Takes a snapshot, in place of the one in the slot.", () -> {
            RustTiles x = new RustTiles();
            x.keep(0);
            x.keep(1);
            x.draw();
            x.keep(0);
            x.draw();
            s.due("the later one", 17, x.goBack(0));
            s.due("the other slot has the earlier one", 18, x.goBack(1));
            s.dueNotUndoable("keep", RustTiles::new, y -> y.keep(0));
            s.dueNotUndoable("keep in place of another", Games::full, y -> y.keep(1));
            RustTiles full = Games.full();
            full.keep(1);
            s.dueAlike("keep", Games.full(), full);
            RustTiles over = Games.overByPassing();
            over.keep(0);
            over.begin(2, 1);
            over.goBack(0);
            s.dueAlike("a game that is over is kept", Games.overByPassing(), over, "count(11)");
        });
        s.test("- `slot`: 0 or 1", () -> {
            for (int slot = 0; slot <= 1; slot++) {
                RustTiles x = new RustTiles();
                int theSlot = slot;
                s.due("keep(" + slot + ")", 18, x.keep(slot));
                s.due("it is kept there", 18, x.goBack(slot));
                s.dueThrows("and not in the other slot", Sentences.STATE, x, y -> y.goBack(1 - theSlot));
            }
        });
        s.test("Returns how many tiles are in the stock.", () -> {
            s.due("at first", 18, new RustTiles().keep(0));
            s.due("of four players", 8, Games.begun(4).keep(1));
            s.due("none", 0, Games.withEmptyStock().keep(0));
        });
        s.test("Throws `IllegalArgumentException` if slot is out of range", () -> {
            for (int slot : new int[] {-1, 2, MIN, MAX}) {
                s.dueThrows("keep(" + slot + ")", Sentences.ARGUMENT, Games.full(), y -> y.keep(slot));
                s.dueThrows("keep(" + slot + ") with empty slots", Sentences.ARGUMENT, new RustTiles(), y -> y.keep(slot));
            }
        });
    }

    // ---- promise 13

    private void goBack() {
        s.under("Promise 13: goBack");
        s.test("Goes back to a snapshot, which stays.", () -> {
            RustTiles x = new RustTiles();
            x.keep(0);
            for (int i = 1; i <= 3; i++) {
                x.draw();
                x.lay(0, 0, 0);
                x.set(i);
                s.due("again and again", 18, x.goBack(0));
                s.dueCounts(x, 2, 0, 18, 10, 0, 0, 0, 0, -1, 0, 6605);
                s.due("the setting", 3, x.setting());
                s.dueRow(x, 0, 0, -1, -1, -1);
            }
            x.undo();
            s.due("it stays behind undo", 18, x.goBack(0));
        });
        s.test("Undoable.", () -> {
            s.dueUndoable("goBack", Games::full, x -> x.goBack(0));
            s.dueUndoable("goBack to what is now", EdgesOfTexts::kept, x -> x.goBack(1));
            RustTiles x = kept();
            x.begin(4, 5);
            x.goBack(1);
            x.undo();
            s.due("four players again", 4, x.count(0));
            s.due("the snapshot stays", 18, x.goBack(1));
        });
        s.test("- `slot`: 0 or 1", () -> {
            RustTiles x = new RustTiles();
            x.keep(0);
            x.draw();
            x.keep(1);
            s.due("slot 0", 18, x.goBack(0));
            s.due("slot 1", 17, x.goBack(1));
        });
        s.test("Returns how many tiles are in the stock then.", () -> {
            RustTiles x = Games.withEmptyStock();
            x.keep(0);
            x.begin(4, 1);
            x.keep(1);
            s.due("none", 0, x.goBack(0));
            s.due("of four players", 8, x.goBack(1));
            s.due("none again", 0, x.goBack(0));
        });
        s.test("Throws `IllegalArgumentException` if slot is out of range", () -> {
            for (int slot : new int[] {-1, 2, MIN, MAX}) {
                s.dueThrows("goBack(" + slot + ")", Sentences.ARGUMENT, Games.full(), y -> y.goBack(slot));
                s.dueThrows("goBack(" + slot + ") with empty slots", Sentences.ARGUMENT, new RustTiles(), y -> y.goBack(slot));
            }
        });
        s.test("Throws `IllegalStateException` if there is no snapshot in it", () -> {
            RustTiles x = new RustTiles();
            s.dueThrows("slot 0 at first", Sentences.STATE, x, y -> y.goBack(0));
            s.dueThrows("slot 1 at first", Sentences.STATE, x, y -> y.goBack(1));
            x.keep(1);
            s.dueThrows("slot 0 still", Sentences.STATE, x, y -> y.goBack(0));
            s.due("slot 1", 18, x.goBack(1));
            x.undo();
            s.dueThrows("slot 0 behind undo", Sentences.STATE, x, y -> y.goBack(0));
        });
    }

    private static RustTiles kept() {
        RustTiles x = new RustTiles();
        x.keep(1);
        return x;
    }

    // ---- promise 14

    private void undo() {
        s.under("Promise 14: undo");
        s.test("Restores the latest saved state, and drops it.", () -> {
            RustTiles x = new RustTiles();
            x.set(5);
            x.begin(3, 7);
            x.undo();
            s.due("the latest", 2, x.count(0));
            s.due("not the one before", 5, x.setting());
            x.undo();
            s.dueAlike("the one before", new RustTiles(), x);
            x.draw();
            x.undo();
            x.draw();
            x.draw();
            x.undo();
            s.due("a state saved behind an undo", 1, x.count(5));
        });
        s.test("Returns how many saved states are left.", () -> {
            RustTiles x = new RustTiles();
            x.draw();
            s.due("none", 0, x.undo());
            Games.draw(x, 7);
            for (int left = 5; left >= 0; left--) {
                s.due("left", left, x.undo());
                s.due("counted", left, x.count(11));
            }
            s.due("the turn before the six", 1, x.count(5));
        });
        s.test("Throws `IllegalStateException` if there is none", () -> {
            s.dueThrows("at first", Sentences.STATE, new RustTiles(), y -> y.undo());
            RustTiles x = Games.full();
            for (int i = 0; i < 6; i++) {
                x.undo();
            }
            s.dueThrows("behind six", Sentences.STATE, x, y -> y.undo());
            x.keep(0);
            x.append('d');
            s.dueThrows("behind what is not undoable", Sentences.STATE, x, y -> y.undo());
            s.dueThrows("behind a call that throws", Sentences.ARGUMENT, x, y -> y.set(0));
            s.dueThrows("nothing was saved by it", Sentences.STATE, x, y -> y.undo());
            x.pass();
            s.due("behind one that is refused", 0, x.undo());
        });
    }
}
