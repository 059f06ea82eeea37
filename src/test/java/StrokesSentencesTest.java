import java.util.ArrayList;
import java.util.List;
import java.util.function.Supplier;

/** The promises 1 to 10 of the document, sentence by sentence: strokes and points. */
public final class StrokesSentencesTest {

    private static final String NO_STROKE = "Throws `IndexOutOfBoundsException` if there is no such stroke";
    private static final String NO_STROKE_OR_POINT = "Throws `IndexOutOfBoundsException` if there is no such stroke or point";
    private static final String OTHER_OUT_OF_RANGE = "Throws `IllegalArgumentException` if another argument is out of range";

    private static final int[] NO_NUMBER = {Integer.MIN_VALUE, -2, -1, 24, 25, 100, Integer.MAX_VALUE};

    public static void main(String[] args) {
        newObject();
        stroke();
        draw();
        insert();
        change();
        remove();
        erase();
        simplify();
        bake();
        set();
        Check.end();
    }

    private static BrushStrokes strokes(int many) {
        BrushStrokes on = new BrushStrokes();
        for (int k = 0; k < many; k++) {
            on.stroke(10 * k + 1, 2, 90, 10 * k + 3);
        }
        return on;
    }

    private static BrushStrokes points(int many) {
        BrushStrokes on = strokes(1);
        for (int k = 2; k < many; k++) {
            on.insert(0, k - 1, 2 * k, 2, 5);
        }
        return on;
    }

    private static BrushStrokes threeOnALine() {
        return Check.sheet("0,0w9;10,0w9;20,0w9");
    }

    private static BrushStrokes typed(String text) {
        BrushStrokes on = new BrushStrokes();
        Check.type(on, text);
        return on;
    }

    private static String all(BrushStrokes on, int stroke) {
        StringBuilder all = new StringBuilder();
        for (int k = 0; k < on.strokeOf(stroke, 0); k++) {
            all.append(on.point(stroke, k, 0)).append(',').append(on.point(stroke, k, 1)).append('w');
            all.append(on.point(stroke, k, 2)).append(' ');
        }
        return all.toString();
    }

    // ---- promise 1

    private static void newObject() {
        new Section("## Promise 1: A new object")
            .says("Creates a sheet without strokes.", StrokesSentencesTest::withoutStrokes)
            .end();
    }

    private static void withoutStrokes() {
        BrushStrokes on = new BrushStrokes();
        for (int what = 0; what <= 6; what++) {
            Check.due("count(" + what + ")", on.count(what), 0);
        }
        Check.fails("no stroke 0", on, Check.INDEX, () -> on.strokeOf(0, 0));
        Check.fails("nothing to undo", on, Check.STATE, () -> on.undo());
        Check.due("share()", on.share(), 1.0);
        BrushStrokes other = new BrushStrokes();
        other.stroke(0, 0, 1, 1);
        other.set(0, 7);
        other.append('1');
        other.keep(0);
        Check.due("each object its own strokes", on.count(0) + on.count(5) + on.count(6), 0);
        Check.due("each object its own settings", on.setting(0) + new BrushStrokes().setting(0), 6);
        Check.fails("each object its own slots", on, Check.STATE, () -> on.goBack(0));
    }

    // ---- promise 2

    private static void stroke() {
        Supplier<BrushStrokes> fresh = BrushStrokes::new;
        new Section("## Promise 2: stroke")
            .says("Adds a stroke with two points of the width 5.", StrokesSentencesTest::addsTwoPoints)
            .says("Undoable.", () -> {
                for (int many = 0; many < 4; many++) {
                    BrushStrokes on = strokes(many);
                    Check.undoable("behind " + many, on, () -> on.stroke(7, 7, 7, 7));
                }
            })
            .says("`x`: 0 to 99: of the first point", () -> Check.range("x", fresh, 0, 99, Check.ARGUMENT,
                (on, x) -> same(x, on.stroke(x, 1, 2, 3) + on.point(0, 0, 0))))
            .says("`y`: 0 to 99", () -> Check.range("y", fresh, 0, 99, Check.ARGUMENT,
                (on, y) -> same(y, on.stroke(1, y, 2, 3) + on.point(0, 0, 1))))
            .says("`toX`: 0 to 99: of the second point", () -> Check.range("toX", fresh, 0, 99, Check.ARGUMENT,
                (on, x) -> same(x, on.stroke(1, 2, x, 3) + on.point(0, 1, 0))))
            .says("`toY`: 0 to 99", () -> Check.range("toY", fresh, 0, 99, Check.ARGUMENT,
                (on, y) -> same(y, on.stroke(1, 2, 3, y) + on.point(0, 1, 1))))
            .says("Returns the number of the stroke.", () -> {
                BrushStrokes on = new BrushStrokes();
                for (int k = 0; k < 4; k++) {
                    Check.due("the stroke", on.stroke(0, 0, 1, 1), k);
                }
                on.erase(1);
                Check.due("behind the others", on.stroke(0, 0, 1, 1), 3);
            })
            .says("Throws `IllegalArgumentException` if an argument is out of range", () -> {
                for (int number : new int[] {Integer.MIN_VALUE, -1, 100, Integer.MAX_VALUE}) {
                    for (int many : new int[] {0, 3, 4}) {
                        BrushStrokes on = strokes(many);
                        Check.fails("x " + number, on, Check.ARGUMENT, () -> on.stroke(number, 0, 0, 0));
                        Check.fails("y " + number, on, Check.ARGUMENT, () -> on.stroke(0, number, 0, 0));
                        Check.fails("toX " + number, on, Check.ARGUMENT, () -> on.stroke(0, 0, number, 0));
                        Check.fails("toY " + number, on, Check.ARGUMENT, () -> on.stroke(0, 0, 0, number));
                    }
                }
            })
            .says("Throws `IllegalStateException` if there are 4 strokes", () -> {
                BrushStrokes on = strokes(3);
                Check.due("three", on.stroke(99, 99, 0, 0), 3);
                Check.fails("four", on, Check.STATE, () -> on.stroke(0, 0, 0, 0));
                on.erase(3);
                Check.due("three again", on.stroke(0, 0, 0, 0), 3);
            })
            .end();
    }

    private static int same(int want, int got) {
        Check.due("the number " + want, got, want);
        return got;
    }

    private static void addsTwoPoints() {
        BrushStrokes on = strokes(0);
        on.stroke(1, 2, 3, 4);
        Check.due("its points", all(on, 0), "1,2w5 3,4w5 ");
        on.stroke(99, 0, 0, 99);
        Check.due("the points of another", all(on, 1), "99,0w5 0,99w5 ");
        Check.due("the first is as it was", all(on, 0), "1,2w5 3,4w5 ");
        Check.draw(on, "1,1w9;2,2w9;3,3w9");
        on.erase(2);
        on.stroke(5, 6, 7, 8);
        Check.due("where a longer one was", all(on, 2), "5,6w5 7,8w5 ");
        Check.due("all are kept", on.strokeOf(2, 10), 3);
    }

    // ---- promise 3

    private static void draw() {
        new Section("## Promise 3: draw")
            .says("Adds the stroke that the buffer tells, and clears the buffer.", StrokesSentencesTest::addsWhatIsTold)
            .says("Undoable.", () -> {
                BrushStrokes on = typed("1,1;2,2;3,3");
                Check.undoable("draw()", on, () -> on.draw());
                Check.due("the buffer is no part of the state", on.count(6), 0);
                Check.fails("so it is still empty", on, Check.ARGUMENT, () -> on.draw());
            })
            .says("Returns the number of the stroke.", () -> {
                BrushStrokes on = new BrushStrokes();
                for (int k = 0; k < 4; k++) {
                    Check.due("the stroke", Check.draw(on, "0,0;1,1"), k);
                }
                on.erase(0);
                Check.due("behind the others", Check.draw(on, "0,0;1,1"), 3);
            })
            .says("Throws `IllegalArgumentException` if the buffer is not a complete stroke text", () -> {
                for (String text : new String[] {"", "1", "1,", "1,1", "1,1w1", "1,1;", "1,1;2", "1,1;2,", "1,1;2,2w", "1,1;2,2;",
                    "1,1;2,2x", "1,1;2,2,", "1,1;2,200", "1,1;2,2w21", "01,1;2,2", "x1,1;2,2", "1,1;2,2;3"}) {
                    BrushStrokes on = typed(text);
                    Check.fails("'" + text + "'", on, Check.ARGUMENT, () -> on.draw());
                }
                for (String text : new String[] {"1,1;2,2", "1,1;2,2w2", "1,1;2,20", "1,1;2,2w20", "1,1w1;2,2;3,3"}) {
                    Check.due("'" + text + "'", typed(text).draw(), 0);
                }
                BrushStrokes on = typed("1,1;2,2;");
                Check.fails("not yet", on, Check.ARGUMENT, () -> on.draw());
                Check.type(on, "3,3");
                Check.due("now", on.draw(), 0);
                Check.due("with all points", all(on, 0), "1,1w5 2,2w5 3,3w5 ");
            })
            .says("Throws `IllegalStateException` if there are 4 strokes", () -> {
                BrushStrokes on = strokes(3);
                Check.due("three", Check.draw(on, "1,1;2,2"), 3);
                Check.type(on, "3,3;4,4");
                Check.fails("four", on, Check.STATE, () -> on.draw());
                on.erase(0);
                Check.due("three again", on.draw(), 3);
                Check.due("what was told", all(on, 3), "3,3w5 4,4w5 ");
            })
            .end();
    }

    private static void addsWhatIsTold() {
        BrushStrokes on = typed("0,99;99,0w1;50,50w20");
        on.draw();
        Check.due("the stroke", all(on, 0), "0,99w5 99,0w1 50,50w20 ");
        Check.due("all are kept", on.strokeOf(0, 10), 7);
        Check.due("the buffer is empty", on.count(6), 0);
        Check.fails("and tells nothing", on, Check.ARGUMENT, () -> on.draw());
        Check.draw(on, "7,7;8,8");
        Check.due("a shorter one", all(on, 1), "7,7w5 8,8w5 ");
        Check.draw(on, "1,1;1,1;1,1;1,1;1,1;1,1;1,1;1,1;1,1;1,1;1,1;1,1;1,1;1,1;1,1;1,1;1,1w5");
        Check.due("the longest", on.strokeOf(2, 0), 17);
    }

    // ---- promise 4

    private static void insert() {
        Supplier<BrushStrokes> fresh = StrokesSentencesTest::threeOnALine;
        new Section("## Promise 4: insert")
            .says("Inserts a point into a stroke.", StrokesSentencesTest::inserts)
            .says("Undoable.", () -> {
                for (int index = 0; index <= 3; index++) {
                    BrushStrokes on = threeOnALine();
                    int at = index;
                    on.simplify(0, 0);
                    Check.undoable("at " + index, on, () -> on.insert(0, at, 50, 50, 7));
                }
                BrushStrokes on = points(23);
                Check.undoable("the last one", on, () -> on.insert(0, 23, 50, 50, 7));
            })
            .says("`stroke`: its number", () -> {
                BrushStrokes on = strokes(4);
                for (int k = 0; k < 4; k++) {
                    Check.due("stroke " + k, on.insert(k, 1, 50 + k, 0, 5), 3);
                    Check.due("stroke " + k, on.point(k, 1, 0), 50 + k);
                }
            })
            .says("`index`: 0 to the number of its points: the number that the new point gets", () -> {
                for (int size : new int[] {2, 3, 23}) {
                    Check.range("index", () -> points(size), 0, size, Check.INDEX, (on, index) ->
                        on.insert(0, index, 98, 97, 19) * 0 + same(989719, on.point(0, index, 0) * 10000
                            + on.point(0, index, 1) * 100 + on.point(0, index, 2)));
                }
            })
            .says("`x`: 0 to 99", () -> Check.range("x", fresh, 0, 99, Check.ARGUMENT,
                (on, x) -> on.insert(0, 1, x, 1, 5) * 0 + same(x, on.point(0, 1, 0))))
            .says("`y`: 0 to 99", () -> Check.range("y", fresh, 0, 99, Check.ARGUMENT,
                (on, y) -> on.insert(0, 3, 1, y, 5) * 0 + same(y, on.point(0, 3, 1))))
            .says("`width`: 1 to 20", () -> Check.range("width", fresh, 1, 20, Check.ARGUMENT,
                (on, width) -> on.insert(0, 0, 1, 1, width) * 0 + same(width, on.point(0, 0, 2))))
            .says("Returns the number of points of the stroke.", () -> {
                BrushStrokes on = strokes(2);
                for (int size = 3; size <= 24; size++) {
                    Check.due("points", on.insert(1, 1, 7, 7, 5), size);
                }
                Check.due("those of the other", on.strokeOf(0, 0), 2);
            })
            .says("Throws `IndexOutOfBoundsException` if there is no such stroke, or index is out of range", () -> {
                for (int many = 0; many <= 4; many++) {
                    noStroke(strokes(many), (on, number) -> on.insert(number, 0, 0, 0, 5));
                }
                BrushStrokes on = threeOnALine();
                for (int number : NO_NUMBER) {
                    Check.fails("index " + number, on, Check.INDEX, () -> on.insert(0, number, 0, 0, 5));
                }
                Check.fails("index 4 of 3 points", on, Check.INDEX, () -> on.insert(0, 4, 0, 0, 5));
                BrushStrokes full = points(24);
                Check.fails("index 25 of 24 points", full, Check.INDEX, () -> full.insert(0, 25, 0, 0, 5));
            })
            .says(OTHER_OUT_OF_RANGE, () -> {
                for (BrushStrokes on : new BrushStrokes[] {points(2), points(24)}) {
                    Check.fails("x", on, Check.ARGUMENT, () -> on.insert(0, 0, 100, 0, 5));
                    Check.fails("y", on, Check.ARGUMENT, () -> on.insert(0, 0, 0, -1, 5));
                    Check.fails("width", on, Check.ARGUMENT, () -> on.insert(0, 0, 0, 0, 0));
                    Check.fails("width", on, Check.ARGUMENT, () -> on.insert(0, 2, 0, 0, 21));
                }
            })
            .says("Throws `IllegalStateException` if the stroke has 24 points", () -> {
                BrushStrokes on = points(23);
                Check.due("23", on.insert(0, 0, 1, 1, 5), 24);
                for (int index = 0; index <= 24; index++) {
                    int at = index;
                    Check.fails("24", on, Check.STATE, () -> on.insert(0, at, 1, 1, 5));
                }
                on.remove(0, 0);
                Check.due("23 again", on.insert(0, 23, 1, 1, 5), 24);
            })
            .end();
    }

    private static void inserts() {
        BrushStrokes on = Check.sheet("1,2w3;4,5w6");
        on.stroke(9, 9, 9, 9);
        on.insert(0, 1, 7, 8, 9);
        Check.due("between", all(on, 0), "1,2w3 7,8w9 4,5w6 ");
        on.insert(0, 0, 10, 11, 12);
        Check.due("before the first", all(on, 0), "10,11w12 1,2w3 7,8w9 4,5w6 ");
        on.insert(0, 4, 13, 14, 15);
        Check.due("behind the last", all(on, 0), "10,11w12 1,2w3 7,8w9 4,5w6 13,14w15 ");
        Check.due("the other stroke", all(on, 1), "9,9w5 9,9w5 ");
    }

    /** No number that is none of a stroke is taken. */
    private static void noStroke(BrushStrokes on, Check.Call call) {
        for (int number : NO_NUMBER) {
            Check.fails("stroke " + number, on, Check.INDEX, () -> call.on(on, number));
        }
        for (int number = on.count(0); number <= 5; number++) {
            int none = number;
            Check.fails("stroke " + number + " of " + on.count(0), on, Check.INDEX, () -> call.on(on, none));
        }
    }

    // ---- promise 5

    private static void change() {
        Supplier<BrushStrokes> fresh = StrokesSentencesTest::threeOnALine;
        new Section("## Promise 5: change")
            .says("Changes a point of a stroke.", () -> {
                BrushStrokes on = Check.sheet("1,2w3;4,5w6;7,8w9");
                on.stroke(9, 9, 9, 9);
                on.change(0, 1, 10, 11, 12);
                Check.due("this one alone", all(on, 0) + all(on, 1), "1,2w3 10,11w12 7,8w9 9,9w5 9,9w5 ");
                on.change(0, 0, 0, 0, 1);
                on.change(0, 2, 99, 99, 20);
                Check.due("the ends", all(on, 0), "0,0w1 10,11w12 99,99w20 ");
            })
            .says("Undoable.", () -> {
                BrushStrokes on = threeOnALine();
                on.simplify(0, 0);
                Check.undoable("a change", on, () -> on.change(0, 1, 50, 50, 7));
                Check.undoable("no change", on, () -> on.change(0, 1, 10, 0, 9));
            })
            .says("`stroke`: its number", () -> {
                BrushStrokes on = strokes(4);
                for (int k = 0; k < 4; k++) {
                    Check.due("stroke " + k, on.change(k, 0, 50 + k, 0, 5), 1000 * k + 102);
                    Check.due("stroke " + k, on.point(k, 0, 0), 50 + k);
                }
            })
            .says("`index`: the number of the point", () -> {
                for (int size : new int[] {2, 3, 24}) {
                    Check.range("index", () -> points(size), 0, size - 1, Check.INDEX, (on, index) ->
                        on.change(0, index, 98, 97, 19) * 0 + same(989719, on.point(0, index, 0) * 10000
                            + on.point(0, index, 1) * 100 + on.point(0, index, 2)));
                }
            })
            .says("`x`: 0 to 99", () -> Check.range("x", fresh, 0, 99, Check.ARGUMENT,
                (on, x) -> on.change(0, 1, x, 1, 5) * 0 + same(x, on.point(0, 1, 0))))
            .says("`y`: 0 to 99", () -> Check.range("y", fresh, 0, 99, Check.ARGUMENT,
                (on, y) -> on.change(0, 2, 1, y, 5) * 0 + same(y, on.point(0, 2, 1))))
            .says("`width`: 1 to 20", () -> Check.range("width", fresh, 1, 20, Check.ARGUMENT,
                (on, width) -> on.change(0, 0, 1, 1, width) * 0 + same(width, on.point(0, 0, 2))))
            .says("Returns 100 times the previous x, plus the previous y.", () -> {
                BrushStrokes on = Check.sheet("0,0;99,99;12,3");
                Check.due("the least", on.change(0, 0, 99, 0, 5), 0);
                Check.due("the greatest", on.change(0, 1, 0, 99, 5), 9999);
                Check.due("between", on.change(0, 2, 3, 12, 5), 1203);
                Check.due("x alone", on.change(0, 0, 1, 1, 5), 9900);
                Check.due("y alone", on.change(0, 1, 1, 1, 5), 99);
            })
            .says(NO_STROKE_OR_POINT, () -> {
                for (int many = 0; many <= 4; many++) {
                    noStroke(strokes(many), (on, number) -> on.change(number, 0, 0, 0, 5));
                    noPointOfTwo(strokes(many), (on, number) -> on.change(0, number, 0, 0, 5));
                }
            })
            .says(OTHER_OUT_OF_RANGE, () -> {
                BrushStrokes on = threeOnALine();
                Check.fails("x", on, Check.ARGUMENT, () -> on.change(0, 0, 100, 0, 5));
                Check.fails("y", on, Check.ARGUMENT, () -> on.change(0, 0, 0, -1, 5));
                Check.fails("width", on, Check.ARGUMENT, () -> on.change(0, 2, 0, 0, 0));
                Check.fails("width", on, Check.ARGUMENT, () -> on.change(0, 2, 0, 0, 21));
            })
            .end();
    }

    /** No number is taken that is none of a point of the stroke 0, which has two. */
    private static void noPointOfTwo(BrushStrokes on, Check.Call call) {
        for (int number : NO_NUMBER) {
            Check.fails("point " + number, on, Check.INDEX, () -> call.on(on, number));
        }
        Check.fails("point 2", on, Check.INDEX, () -> call.on(on, 2));
    }

    // ---- promise 6

    private static void remove() {
        new Section("## Promise 6: remove")
            .says("Removes a point of a stroke.", () -> {
                BrushStrokes on = Check.sheet("1,2w3;4,5w6;7,8w9;10,11w12;13,14w15");
                on.stroke(9, 9, 9, 9);
                on.remove(0, 2);
                Check.due("an inner one", all(on, 0), "1,2w3 4,5w6 10,11w12 13,14w15 ");
                on.remove(0, 0);
                Check.due("the first", all(on, 0), "4,5w6 10,11w12 13,14w15 ");
                on.remove(0, 2);
                Check.due("the last", all(on, 0), "4,5w6 10,11w12 ");
                Check.due("the other stroke", all(on, 1), "9,9w5 9,9w5 ");
            })
            .says("Undoable.", () -> {
                for (int index = 0; index < 3; index++) {
                    BrushStrokes on = threeOnALine();
                    int at = index;
                    on.simplify(0, 1);
                    Check.undoable("the point " + index, on, () -> on.remove(0, at));
                }
                BrushStrokes on = points(24);
                Check.undoable("one of 24", on, () -> on.remove(0, 23));
            })
            .says("`stroke`: its number", () -> {
                BrushStrokes on = strokes(4);
                for (int k = 0; k < 4; k++) {
                    on.insert(k, 0, 50 + k, 0, 5);
                }
                for (int k = 0; k < 4; k++) {
                    on.remove(k, 0);
                    Check.due("stroke " + k, on.point(k, 0, 0), 10 * k + 1);
                    Check.due("points", on.count(1), 11 - k);
                }
            })
            .says("`index`: the number of the point", () -> {
                for (int size : new int[] {3, 4, 24}) {
                    Check.range("index", () -> points(size), 0, size - 1, Check.INDEX, (on, index) -> on.remove(0, index));
                    for (int index = 0; index < size; index++) {
                        BrushStrokes on = points(size);
                        List<String> left = new ArrayList<>(List.of(all(on, 0).split(" ")));
                        left.remove(index);
                        on.remove(0, index);
                        Check.due("left without " + index, all(on, 0), String.join(" ", left) + " ");
                    }
                }
            })
            .says("Returns the number of points that are left.", () -> {
                BrushStrokes on = points(24);
                for (int left = 23; left >= 2; left--) {
                    Check.due("left", on.remove(0, left / 2), left);
                }
            })
            .says(NO_STROKE_OR_POINT, () -> {
                for (int many = 0; many <= 4; many++) {
                    noStroke(strokes(many), (on, number) -> on.remove(number, 0));
                    noPointOfTwo(strokes(many), (on, number) -> on.remove(0, number));
                }
                BrushStrokes on = points(24);
                Check.fails("point 24 of 24", on, Check.INDEX, () -> on.remove(0, 24));
                Check.fails("point -1", on, Check.INDEX, () -> on.remove(0, -1));
            })
            .says("Throws `IllegalStateException` if the stroke has only two points", () -> {
                BrushStrokes on = points(3);
                Check.due("three", on.remove(0, 1), 2);
                Check.fails("two", on, Check.STATE, () -> on.remove(0, 0));
                Check.fails("two", on, Check.STATE, () -> on.remove(0, 1));
                BrushStrokes baked = threeOnALine();
                baked.simplify(0, 0);
                Check.due("two are kept, but there are three", baked.remove(0, 1), 2);
            })
            .end();
    }

    // ---- promise 7

    private static void erase() {
        new Section("## Promise 7: erase")
            .says("Removes a stroke.", () -> {
                for (int k = 0; k < 4; k++) {
                    BrushStrokes on = Check.sheet("1,1w1;2,2w2;3,3w3");
                    Check.draw(on, "10,10;20,10;30,10;40,10");
                    Check.draw(on, "11,11;12,12");
                    Check.draw(on, "21,21;22,21;23,21;24,21;25,21");
                    on.simplify(1, 0);
                    on.simplify(3, 1);
                    String left = "";
                    for (int other = 0; other < 4; other++) {
                        left += other == k ? "" : Check.strokeFace(on, other);
                    }
                    on.erase(k);
                    Check.due("left without " + k, Check.strokeFace(on, 0) + Check.strokeFace(on, 1) + Check.strokeFace(on, 2), left);
                }
            })
            .says("Undoable.", () -> {
                for (int many = 1; many <= 4; many++) {
                    for (int number = 0; number < many; number++) {
                        BrushStrokes on = strokes(many);
                        int gone = number;
                        Check.undoable(number + " of " + many, on, () -> on.erase(gone));
                    }
                }
            })
            .says("`stroke`: its number", () -> {
                for (int many = 1; many <= 4; many++) {
                    int size = many;
                    Check.range("stroke", () -> strokes(size), 0, many - 1, Check.INDEX, (on, number) -> on.erase(number));
                }
            })
            .says("Returns the number of strokes that are left.", () -> {
                BrushStrokes on = strokes(4);
                for (int left = 3; left >= 0; left--) {
                    Check.due("left", on.erase(left / 2), left);
                }
            })
            .says(NO_STROKE, () -> {
                for (int many = 0; many <= 4; many++) {
                    noStroke(strokes(many), (on, number) -> on.erase(number));
                }
                BrushStrokes on = strokes(1);
                on.erase(0);
                Check.fails("it is gone", on, Check.INDEX, () -> on.erase(0));
            })
            .end();
    }

    // ---- promise 8

    private static void simplify() {
        new Section("## Promise 8: simplify")
            .says("Simplifies a stroke, from all its points.", () -> {
                BrushStrokes on = Check.sheet("0,0;10,3;20,0;30,3;40,0");
                on.set(1, 0);
                for (int way = 0; way < 2; way++) {
                    for (int again = 0; again < 2; again++) {
                        on.set(0, 50);
                        Check.due("two are left", on.simplify(0, way), 2);
                        on.set(0, 2);
                        Check.due("and one more again", on.simplify(0, way) * 100 + on.strokeOf(0, 10), 319);
                        on.set(0, 0);
                        Check.due("and all again", on.simplify(0, way) * 100 + on.strokeOf(0, 10), 531);
                        Check.due("all are there", on.strokeOf(0, 0), 5);
                    }
                }
                for (int way = 0; way < 2; way++) {
                    on.set(0, 50);
                    on.set(1, 0);
                    on.simplify(0, way);
                    on.set(1, 100);
                    Check.due("corners of all points, not of the kept ones", on.simplify(0, way), 5);
                }
            })
            .says("Undoable.", () -> {
                for (int way = 0; way < 2; way++) {
                    BrushStrokes on = threeOnALine();
                    int by = way;
                    Check.undoable("at first, way " + way, on, () -> on.simplify(0, by));
                    on.simplify(0, way);
                    Check.undoable("again, way " + way, on, () -> on.simplify(0, by));
                }
            })
            .says("`stroke`: its number", () -> {
                BrushStrokes on = new BrushStrokes();
                for (int k = 0; k < 4; k++) {
                    Check.draw(on, "0,0;10,0;20,0;30,0");
                }
                for (int k = 3; k >= 0; k--) {
                    on.simplify(k, k % 2);
                    Check.due("this one and the ones behind it", on.count(2), 8 + 2 * k);
                    Check.due("this one", on.strokeOf(k, 10), 0b1001);
                }
            })
            .says("`way`: 0 or 1", () -> {
                Check.range("way", StrokesSentencesTest::threeOnALine, 0, 1, Check.ARGUMENT, (on, way) -> on.simplify(0, way));
                BrushStrokes on = Check.sheet("0,0;10,0;20,3;30,3;40,0");
                on.set(1, 0);
                on.set(0, 1);
                Check.due("0 splits", on.simplify(0, 0), 5);
                Check.due("1 keeps as few as possible", on.simplify(0, 1), 3);
            })
            .says("Returns the number of points that are kept.", () -> {
                BrushStrokes on = Check.sheet("0,0;10,0;20,0;20,10;20,20;0,20;10,20");
                Check.due("way 0", on.simplify(0, 0), 5);
                Check.due("way 1", on.simplify(0, 1), 5);
                Check.due("of two", strokes(1).simplify(0, 1), 2);
                Check.due("of 24 on a line", points(24).simplify(0, 0) * 100 + points(24).simplify(0, 1), 202);
                on.set(1, 100);
                on.set(0, 0);
                on.change(0, 1, 10, 1, 5);
                on.change(0, 3, 21, 10, 5);
                Check.due("all", on.simplify(0, 0), 7);
            })
            .says(NO_STROKE, () -> {
                for (int many = 0; many <= 4; many++) {
                    noStroke(strokes(many), (on, number) -> on.simplify(number, 0));
                }
            })
            .says("Throws `IllegalArgumentException` if way is neither 0 nor 1", () -> {
                BrushStrokes on = threeOnALine();
                for (int way : new int[] {Integer.MIN_VALUE, -1, 2, 3, Integer.MAX_VALUE}) {
                    Check.fails("way " + way, on, Check.ARGUMENT, () -> on.simplify(0, way));
                }
            })
            .end();
    }

    // ---- promise 9

    private static void bake() {
        new Section("## Promise 9: bake")
            .says("Removes all points of a stroke that are not kept.", () -> {
                BrushStrokes on = Check.sheet("0,0w1;10,1w2;20,0w3;20,10w4;20,20w5;10,20w6;0,20w7");
                on.stroke(9, 9, 9, 9);
                on.bake(0);
                Check.due("all are kept", on.strokeOf(0, 0), 7);
                on.simplify(0, 1);
                on.bake(0);
                Check.due("what is left", all(on, 0), "0,0w1 20,0w3 20,20w5 0,20w7 ");
                Check.due("all of it is kept", on.strokeOf(0, 10), 0b1111);
                Check.due("the other stroke", all(on, 1), "9,9w5 9,9w5 ");
                BrushStrokes full = points(24);
                full.simplify(0, 0);
                full.bake(0);
                Check.due("two of 24", full.strokeOf(0, 0) * 100 + full.strokeOf(0, 10), 203);
                BrushStrokes two = strokes(1);
                two.bake(0);
                Check.due("two of two", two.strokeOf(0, 0), 2);
            })
            .says("Undoable.", () -> {
                BrushStrokes on = threeOnALine();
                Check.undoable("all are kept", on, () -> on.bake(0));
                on.simplify(0, 0);
                Check.undoable("one is not kept", on, () -> on.bake(0));
            })
            .says("`stroke`: its number", () -> {
                BrushStrokes on = new BrushStrokes();
                for (int k = 0; k < 4; k++) {
                    Check.draw(on, "0,0;10,0;20,0;30,0");
                    on.simplify(k, 0);
                }
                for (int k = 0; k < 4; k++) {
                    Check.due("stroke " + k, on.bake(k) * 10 + on.strokeOf(k, 0), 22);
                    Check.due("points", on.count(1), 14 - 2 * k);
                }
            })
            .says("Returns the number of points that are removed.", () -> {
                BrushStrokes on = points(24);
                Check.due("none", on.bake(0), 0);
                on.simplify(0, 1);
                Check.due("22", on.bake(0), 22);
                Check.due("none again", on.bake(0), 0);
            })
            .says(NO_STROKE, () -> {
                for (int many = 0; many <= 4; many++) {
                    noStroke(strokes(many), (on, number) -> on.bake(number));
                }
            })
            .end();
    }

    // ---- promise 10

    private static void set() {
        int[] least = {0, 0, 1, 0};
        int[] greatest = {50, 100, 20, 100};
        new Section("## Promise 10: set")
            .says("Changes a setting.", () -> {
                for (int k = 0; k < 4; k++) {
                    BrushStrokes on = new BrushStrokes();
                    on.set(k, 17);
                    for (int other = 0; other < 4; other++) {
                        Check.due("the setting " + other, on.setting(other), other == k ? 17 : new int[] {3, 50, 4, 20}[other]);
                    }
                }
            })
            .says("Undoable.", () -> {
                for (int k = 0; k < 4; k++) {
                    BrushStrokes on = threeOnALine();
                    int number = k;
                    Check.undoable("the setting " + k, on, () -> on.set(number, 11));
                    Check.undoable("the setting " + k + " as it is", on, () -> on.set(number, on.setting(number)));
                }
            })
            .says("`setting`: 0 to 3", () -> Check.range("setting", BrushStrokes::new, 0, 3, Check.INDEX,
                (on, number) -> on.set(number, 7)))
            .says("`value`: the new value", () -> {
                for (int k = 0; k < 4; k++) {
                    int number = k;
                    Check.range("value of " + k, BrushStrokes::new, least[k], greatest[k], Check.ARGUMENT,
                        (on, value) -> on.set(number, value) * 0 + same(value, on.setting(number)));
                }
            })
            .says("Returns the previous value.", () -> {
                for (int k = 0; k < 4; k++) {
                    BrushStrokes on = new BrushStrokes();
                    Check.due("the first of " + k, on.set(k, greatest[k]), new int[] {3, 50, 4, 20}[k]);
                    Check.due("the greatest of " + k, on.set(k, least[k]), greatest[k]);
                    Check.due("the least of " + k, on.set(k, least[k]), least[k]);
                    on.undo();
                    on.undo();
                    Check.due("one that came back of " + k, on.set(k, 7), greatest[k]);
                }
            })
            .says("Throws `IndexOutOfBoundsException` if there is no such setting", () -> {
                BrushStrokes on = new BrushStrokes();
                for (int number : new int[] {Integer.MIN_VALUE, -1, 4, 5, Integer.MAX_VALUE}) {
                    Check.fails("setting " + number, on, Check.INDEX, () -> on.set(number, 7));
                    Check.fails("setting " + number, on, Check.INDEX, () -> on.set(number, 101));
                }
            })
            .says("Throws `IllegalArgumentException` if value is out of range", () -> {
                BrushStrokes on = new BrushStrokes();
                for (int k = 0; k < 4; k++) {
                    int number = k;
                    for (int value : new int[] {Integer.MIN_VALUE, -1, least[k] - 1, greatest[k] + 1, Integer.MAX_VALUE}) {
                        Check.fails("value " + value + " of " + k, on, Check.ARGUMENT, () -> on.set(number, value));
                    }
                }
            })
            .end();
    }
}
