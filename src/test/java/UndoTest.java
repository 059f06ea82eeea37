/** Promises 14 to 16: undo and snapshots. */
public final class UndoTest {

    public static void main(String[] args) {
        promise14Undo();
        promise14EachUndoable();
        promise14Oldest();
        promise15Keep();
        promise16GoBack();
        Check.end();
    }

    private static void promise14Undo() {
        BrushStrokes on = new BrushStrokes();
        Check.fails("14: nothing is saved", on, Check.STATE, () -> on.undo());
        on.stroke(0, 0, 9, 9);
        on.set(0, 3);
        Check.due("14: saved, though nothing changed", on.count(5), 2);
        Check.due("14: one is left", on.undo(), 1);
        Check.due("14: none is left", on.undo(), 0);
        Check.due("14: no stroke", on.count(0), 0);
        Check.fails("14: nothing is saved", on, Check.STATE, () -> on.undo());
    }

    private static void promise14EachUndoable() {
        BrushStrokes on = Check.sheet("0,0;10,2;20,0;30,0");
        on.simplify(0, 0);
        on.keep(0);
        Runnable[] calls = {() -> on.stroke(1, 1, 2, 2), () -> Check.draw(on, "1,1;2,2"), () -> on.insert(0, 1, 5, 5, 5),
            () -> on.change(0, 1, 10, 2, 5), () -> on.remove(0, 1), () -> on.erase(0), () -> on.simplify(0, 1),
            () -> on.bake(0), () -> on.set(3, 77), () -> on.goBack(0)};
        for (int k = 0; k < calls.length; k++) {
            on.set(0, 3);
            on.undo();
            int saved = on.count(5);
            String before = Check.face(on);
            calls[k].run();
            Check.due("14: call " + k + " saves", on.count(5), saved + 1);
            Check.due("14: call " + k + " undone", on.undo(), saved);
            Check.due("14: call " + k + " undone", Check.face(on), before);
        }
    }

    private static void promise14Oldest() {
        BrushStrokes on = new BrushStrokes();
        for (int value = 10; value <= 19; value++) {
            on.set(0, value);
        }
        Check.due("14: at most six", on.count(5), 6);
        for (int left = 5; left >= 0; left--) {
            Check.due("14: left", on.undo(), left);
            Check.due("14: the last one first", on.setting(0), 13 + left);
        }
        Check.fails("14: the older ones are dropped", on, Check.STATE, () -> on.undo());
        on.set(0, 40);
        on.set(0, 41);
        Check.due("14: and again", on.undo() * 100 + on.setting(0), 140);
    }

    private static void promise15Keep() {
        BrushStrokes on = new BrushStrokes();
        Check.due("15: no stroke", on.keep(1), 0);
        on.stroke(0, 0, 1, 1);
        on.stroke(2, 2, 3, 3);
        Check.due("15: two strokes", on.keep(0), 2);
        Check.due("15: not saved", on.count(5), 2);
        for (int bad : new int[] {-1, 2, Integer.MIN_VALUE, Integer.MAX_VALUE}) {
            Check.fails("15: slot " + bad, on, Check.ARGUMENT, () -> on.keep(bad));
        }
        on.erase(0);
        Check.due("15: replaced", on.keep(0), 1);
        on.erase(0);
        Check.due("15: the later one", on.goBack(0), 1);
        Check.due("15: its points", on.point(0, 0, 0), 2);
        Check.due("15: the other slot", on.goBack(1), 0);
    }

    private static void promise16GoBack() {
        BrushStrokes on = new BrushStrokes();
        Check.draw(on, "0,0;10,0;20,0");
        on.simplify(0, 0);
        Check.type(on, "1,");
        on.keep(0);
        String kept = Check.face(on);
        on.change(0, 0, 5, 5, 5);
        on.set(1, 78);
        on.erase(0);
        String before = Check.face(on);
        Check.due("16: one stroke", on.goBack(0), 1);
        Check.due("16: saved", on.count(5), 6);
        Check.due("16: undone", on.undo(), 5);
        Check.due("16: what was before is back", Check.face(on), before);
        on.undo();
        on.undo();
        on.goBack(0);
        on.undo();
        on.undo();
        Check.due("16: as it was", Check.face(on), kept);
        on.set(3, 99);
        on.erase(0);
        on.goBack(0);
        Check.due("16: settings and counts too", on.setting(3) * 100 + on.count(3) * 10 + on.count(4), 2011);
        on.stroke(8, 8, 9, 9);
        Check.due("16: the snapshot stays", on.goBack(0), 1);
        Check.due("16: the snapshot stays", on.strokeOf(0, 10), 5);
        on.change(0, 0, 50, 50, 5);
        on.goBack(0);
        Check.due("16: and does not change with the strokes", on.point(0, 0, 0), 0);
        Check.due("16: the buffer is no part of it", on.clearBuffer(), 2);
        Check.fails("16: an empty slot", on, Check.STATE, () -> on.goBack(1));
        for (int bad : new int[] {-1, 2, Integer.MIN_VALUE, Integer.MAX_VALUE}) {
            Check.fails("16: slot " + bad, on, Check.ARGUMENT, () -> on.goBack(bad));
        }
    }
}
