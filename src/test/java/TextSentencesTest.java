/** The promises 11 to 16 of the document, sentence by sentence: stroke text, undo and snapshots. */
public final class TextSentencesTest {

    private static final String SEVENTY = "10,10w10;20,20w20;30,30w11;40,40w12;50,50w13;60,60w14;70,70w15;80,80w1";
    private static final String NO_SLOT = "Throws `IllegalArgumentException` if there is no such slot";

    public static void main(String[] args) {
        append();
        clearBuffer();
        firstError();
        undo();
        keep();
        goBack();
        Check.end();
    }

    private static BrushStrokes typed(String text) {
        BrushStrokes on = new BrushStrokes();
        Check.type(on, text);
        return on;
    }

    // ---- promise 11

    private static void append() {
        new Section("## Promise 11: append")
            .says("Appends a character to the buffer.", () -> {
                BrushStrokes on = typed("12,34;5");
                Check.fails("not yet", on, Check.ARGUMENT, () -> on.draw());
                on.append(',');
                on.append('6');
                Check.notUndoable("append()", on, () -> on.append('7'));
                on.draw();
                Check.due("in their order", on.point(0, 0, 0) * 10000 + on.point(0, 0, 1) * 100 + on.point(0, 1, 0), 123405);
                Check.due("the last one too", on.point(0, 1, 1), 67);
            })
            .says("`code`: a character code, 33 to 126", () -> Check.range("code", () -> typed("1,1"), 33, 126, Check.ARGUMENT,
                (on, code) -> on.append(code)))
            .says("Returns the new length of the buffer.", () -> {
                BrushStrokes on = new BrushStrokes();
                for (int length = 1; length <= 70; length++) {
                    Check.due("the length", on.append(33 + length), length);
                }
                on.clearBuffer();
                Check.due("from 1 again", on.append('1'), 1);
            })
            .says("Throws `IllegalArgumentException` if code is out of range", () -> {
                for (BrushStrokes on : new BrushStrokes[] {new BrushStrokes(), typed("1,1;2"), typed(SEVENTY)}) {
                    for (int code : new int[] {Integer.MIN_VALUE, -1, 0, 10, 32, 127, 128, 255, 33 + 256, Integer.MAX_VALUE}) {
                        Check.fails("code " + code, on, Check.ARGUMENT, () -> on.append(code));
                    }
                }
            })
            .says("Throws `IllegalStateException` if the buffer holds 70 characters", () -> {
                BrushStrokes on = typed(SEVENTY.substring(0, 69));
                Check.due("69", on.append('1'), 70);
                for (int code = 33; code <= 126; code++) {
                    int one = code;
                    Check.fails("70", on, Check.STATE, () -> on.append(one));
                }
                on.draw();
                Check.due("none", on.append('1'), 1);
            })
            .end();
    }

    // ---- promise 12

    private static void clearBuffer() {
        new Section("## Promise 12: clearBuffer")
            .says("Clears the buffer.", () -> {
                BrushStrokes on = typed("1,1;2,2;9,9");
                on.clearBuffer();
                Check.due("its length", on.count(6), 0);
                Check.fails("it tells nothing", on, Check.ARGUMENT, () -> on.draw());
                Check.type(on, "3,3;4,4");
                Check.due("no error", on.firstError(), 7);
                on.draw();
                Check.due("only what came behind it", on.strokeOf(0, 0) * 10 + on.point(0, 0, 0), 23);
                Check.type(on, "x");
                on.clearBuffer();
                Check.due("the error is gone", on.append('1') * 10 + on.firstError(), 11);
                Check.notUndoable("clearBuffer()", on, () -> on.clearBuffer());
            })
            .says("Returns the length that it had.", () -> {
                Check.due("empty", new BrushStrokes().clearBuffer(), 0);
                Check.due("one", typed("x").clearBuffer(), 1);
                BrushStrokes on = typed(SEVENTY);
                Check.due("full", on.clearBuffer(), 70);
                Check.due("empty again", on.clearBuffer(), 0);
                Check.draw(on, "1,1;2,2");
                Check.due("draw() cleared it", on.clearBuffer(), 0);
            })
            .end();
    }

    // ---- promise 13

    private static void firstError() {
        new Section("## Promise 13: firstError")
            .says("Finds the first error of the buffer.", () -> {
                Check.due("the first sign", typed("x1,1").firstError(), 0);
                Check.due("an inner one", typed("1,1x1,1").firstError(), 3);
                Check.due("the last one", typed("1,1;1,1x").firstError(), 7);
                Check.due("the first of several", typed("1,1x;;x").firstError(), 3);
                Check.due("the last of seventy", typed(SEVENTY.substring(0, 69) + "x").firstError(), 69);
                BrushStrokes on = typed("1,1w21");
                String before = Check.face(on);
                Check.due("again and again", on.firstError() * 10 + on.firstError(), 55);
                Check.due("it changes nothing", Check.face(on), before);
            })
            .says("Returns its index; the length of the buffer if there is no error (also if the text is not complete).", () -> {
                Check.due("empty", new BrushStrokes().firstError(), 0);
                for (int length = 1; length <= 70; length++) {
                    String text = SEVENTY.substring(0, length);
                    Check.due(text, typed(text).firstError(), length);
                    if (length < 70) {
                        Check.due(text + "!", typed(text + "!").firstError(), length);
                        Check.due(text + "~", typed(text + "~").firstError(), length);
                    }
                }
            })
            .end();
    }

    // ---- promise 14

    private static void undo() {
        new Section("## Promise 14: undo")
            .says("Restores the state that was saved last, and removes it from the saved states.", TextSentencesTest::restoresLast)
            .says("Returns the number of saved states that are left.", () -> {
                for (int calls = 1; calls <= 9; calls++) {
                    BrushStrokes on = new BrushStrokes();
                    for (int k = 0; k < calls; k++) {
                        on.set(0, k);
                    }
                    for (int left = Math.min(calls, 6) - 1; left >= 0; left--) {
                        Check.due("of " + calls + " calls", on.undo(), left);
                        Check.due("of " + calls + " calls", on.count(5), left);
                    }
                }
            })
            .says("Throws `IllegalStateException` if no state is saved", () -> {
                BrushStrokes on = typed("1,1");
                on.keep(0);
                Check.fails("at first", on, Check.STATE, () -> on.undo());
                on.set(0, 7);
                Check.due("one", on.undo(), 0);
                Check.fails("none again", on, Check.STATE, () -> on.undo());
                for (int k = 0; k < 7; k++) {
                    on.set(0, k);
                }
                for (int k = 0; k < 6; k++) {
                    on.undo();
                }
                Check.fails("the seventh was dropped", on, Check.STATE, () -> on.undo());
            })
            .end();
    }

    private static void restoresLast() {
        BrushStrokes on = new BrushStrokes();
        String[] faces = new String[6];
        int call = 0;
        faces[call++] = Check.stateFace(on);
        Check.draw(on, "0,0;10,1;20,0;30,1;40,0");
        faces[call++] = Check.stateFace(on);
        on.simplify(0, 0);
        faces[call++] = Check.stateFace(on);
        on.bake(0);
        faces[call++] = Check.stateFace(on);
        on.change(0, 0, 9, 9, 9);
        faces[call++] = Check.stateFace(on);
        on.erase(0);
        faces[call++] = Check.stateFace(on);
        on.set(2, 20);
        for (int k = 5; k >= 0; k--) {
            on.undo();
            Check.due("before call " + k, Check.stateFace(on), faces[k]);
        }
        on.set(0, 10);
        on.set(0, 20);
        on.undo();
        Check.due("it is no call that can be undone", on.undo() * 100 + on.setting(0), 3);
        on.set(0, 30);
        on.keep(0);
        on.undo();
        Check.due("the snapshot is left", on.goBack(0) * 100 + on.setting(0), 30);
        on.undo();
        Check.due("the one before goBack()", on.setting(0), 3);
        BrushStrokes four = new BrushStrokes();
        for (int k = 0; k < 4; k++) {
            four.stroke(k, 0, 9, 9);
        }
        four.erase(0);
        four.erase(0);
        four.stroke(50, 50, 60, 60);
        four.undo();
        four.undo();
        four.undo();
        Check.due("strokes that went are back, where they were", four.point(0, 0, 0) * 1000 + four.point(1, 0, 0) * 100
            + four.point(2, 0, 0) * 10 + four.point(3, 0, 0), 123);
    }

    // ---- promise 15

    private static void keep() {
        new Section("## Promise 15: keep")
            .says("Takes a snapshot of the state, which replaces the one in the slot.", () -> {
                BrushStrokes on = new BrushStrokes();
                Check.draw(on, "0,0;10,1;20,0");
                on.simplify(0, 0);
                on.set(3, 33);
                String first = Check.stateFace(on);
                on.keep(0);
                on.change(0, 1, 50, 50, 5);
                on.set(3, 34);
                String second = Check.stateFace(on);
                on.keep(1);
                on.erase(0);
                on.goBack(0);
                Check.due("the one in the slot 0", Check.stateFace(on), first);
                on.goBack(1);
                Check.due("the one in the slot 1", Check.stateFace(on), second);
                on.keep(0);
                on.set(0, 50);
                on.goBack(0);
                Check.due("replaced by another", Check.stateFace(on), second);
                on.erase(0);
                on.keep(1);
                on.goBack(0);
                on.goBack(1);
                Check.due("replaced by one without strokes", on.count(0), 0);
                Check.notUndoable("keep()", on, () -> on.keep(0));
            })
            .says("`slot`: 0 or 1", () -> Check.range("slot", BrushStrokes::new, 0, 1, Check.ARGUMENT, (on, slot) -> on.keep(slot)))
            .says("Returns the number of strokes.", () -> {
                BrushStrokes on = new BrushStrokes();
                for (int many = 0; many <= 4; many++) {
                    Check.due("strokes", on.keep(many % 2), many);
                    if (many < 4) {
                        on.stroke(1, 1, 2, 2);
                    }
                }
            })
            .says(NO_SLOT, () -> {
                BrushStrokes on = new BrushStrokes();
                for (int slot : new int[] {Integer.MIN_VALUE, -1, 2, 3, Integer.MAX_VALUE}) {
                    Check.fails("slot " + slot, on, Check.ARGUMENT, () -> on.keep(slot));
                }
            })
            .end();
    }

    // ---- promise 16

    private static void goBack() {
        new Section("## Promise 16: goBack")
            .says("Restores a snapshot, which stays in its slot.", () -> {
                BrushStrokes on = new BrushStrokes();
                Check.draw(on, "0,0;10,1;20,0");
                on.simplify(0, 0);
                on.set(3, 33);
                Check.type(on, "1,1");
                String kept = Check.stateFace(on);
                on.keep(1);
                for (int again = 0; again < 3; again++) {
                    on.simplify(0, 1);
                    on.insert(0, 0, 9, 9, 9);
                    on.stroke(5, 5, 6, 6);
                    on.set(3, 1);
                    on.clearBuffer();
                    on.append('7');
                    on.goBack(1);
                    Check.due("the snapshot is back", Check.stateFace(on), kept);
                    Check.due("and the buffer as it was", on.count(6), 1);
                }
                on.change(0, 0, 50, 50, 5);
                on.bake(0);
                on.goBack(1);
                Check.due("no call behind it changes it", Check.stateFace(on), kept);
                on.erase(0);
                on.undo();
                on.undo();
                on.undo();
                on.goBack(1);
                Check.due("nor does undo()", Check.stateFace(on), kept);
            })
            .says("Undoable.", () -> {
                BrushStrokes on = new BrushStrokes();
                on.keep(0);
                Check.undoable("to what is", on, () -> on.goBack(0));
                on.stroke(1, 1, 2, 2);
                Check.undoable("to no strokes", on, () -> on.goBack(0));
                on.keep(1);
                on.goBack(0);
                Check.undoable("to a stroke", on, () -> on.goBack(1));
            })
            .says("`slot`: 0 or 1", () -> Check.range("slot", () -> {
                BrushStrokes on = new BrushStrokes();
                on.keep(0);
                on.keep(1);
                return on;
            }, 0, 1, Check.ARGUMENT, (on, slot) -> on.goBack(slot)))
            .says("Returns the number of strokes after the call.", () -> {
                for (int many = 0; many <= 4; many++) {
                    BrushStrokes on = new BrushStrokes();
                    on.keep(1);
                    for (int k = 0; k < many; k++) {
                        on.stroke(1, 1, 2, 2);
                    }
                    on.keep(0);
                    Check.due("to none of " + many, on.goBack(1), 0);
                    Check.due("to " + many, on.goBack(0), many);
                    Check.due("there are", on.count(0), many);
                }
            })
            .says(NO_SLOT, () -> {
                BrushStrokes on = new BrushStrokes();
                on.keep(0);
                on.keep(1);
                for (int slot : new int[] {Integer.MIN_VALUE, -1, 2, 3, Integer.MAX_VALUE}) {
                    Check.fails("slot " + slot, on, Check.ARGUMENT, () -> on.goBack(slot));
                }
            })
            .says("Throws `IllegalStateException` if the slot is empty", () -> {
                for (int slot = 0; slot < 2; slot++) {
                    BrushStrokes on = new BrushStrokes();
                    int empty = slot;
                    on.stroke(1, 1, 2, 2);
                    Check.fails("slot " + slot, on, Check.STATE, () -> on.goBack(empty));
                    on.keep(1 - slot);
                    Check.fails("slot " + slot + " though not the other", on, Check.STATE, () -> on.goBack(empty));
                    on.erase(0);
                    on.keep(slot);
                    Check.due("a snapshot without strokes", on.goBack(slot), 0);
                }
            })
            .end();
    }
}
