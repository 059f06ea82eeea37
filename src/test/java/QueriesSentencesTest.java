/** The promises 17 to 26 of the document, sentence by sentence: queries, and what would be. */
public final class QueriesSentencesTest {

    private static final String ITS_NUMBER = "`stroke`: its number";
    private static final String RETURNS_NUMBER = "Returns the number.";
    private static final String NO_STROKE = "Throws `IndexOutOfBoundsException` if there is no such stroke";
    private static final String NO_STROKE_OR_POINT = "Throws `IndexOutOfBoundsException` if there is no such stroke or point";
    private static final String OUT_OF_RANGE = "Throws `IllegalArgumentException` if an argument is out of range";
    private static final String OTHER_OUT_OF_RANGE = "Throws `IllegalArgumentException` if another argument is out of range";

    private static final int[] NO_NUMBER = {Integer.MIN_VALUE, -2, -1, 24, 25, 100, Integer.MAX_VALUE};
    private static final int[] NO_WAY = {Integer.MIN_VALUE, -1, 2, 3, Integer.MAX_VALUE};

    // each segment of the star crosses all the others but its neighbours
    private static final String STAR = "99,54;0,51;98,41;3,65;94,28;8,77;87,17;17,87;76,8;28,94;64,2;41,98;51,0;55,99;38,2;68,95;"
        + "25,7;79,89;15,15;89,79;6,25;95,67;2,38;99,54";

    public static void main(String[] args) {
        point();
        strokeOf();
        distance();
        crossings();
        count();
        setting();
        nearest();
        ifSimplified();
        leastBound();
        share();
        Check.end();
    }

    private static BrushStrokes strokes(int many) {
        BrushStrokes on = new BrushStrokes();
        for (int k = 0; k < many; k++) {
            on.stroke(10 * k + 1, 2, 90, 10 * k + 3);
        }
        return on;
    }

    private static BrushStrokes points(int many) {
        BrushStrokes on = strokes(1);
        for (int k = 2; k < many; k++) {
            on.insert(0, k - 1, 2 * k, 2, 5);
        }
        return on;
    }

    /** Without corners, but for ways back. */
    private static BrushStrokes smooth(String text) {
        BrushStrokes on = Check.sheet(text);
        on.set(1, 0);
        return on;
    }

    /** All points but the fixed ones are dropped, as far as the greatest bound lets them. */
    private static BrushStrokes dropped(String text) {
        BrushStrokes on = smooth(text);
        on.set(0, 50);
        on.simplify(0, 0);
        return on;
    }

    private static void noStroke(BrushStrokes on, Check.Call call) {
        for (int number : NO_NUMBER) {
            Check.fails("stroke " + number, on, Check.INDEX, () -> call.on(on, number));
        }
        for (int number = on.count(0); number <= 5; number++) {
            int none = number;
            Check.fails("stroke " + number + " of " + on.count(0), on, Check.INDEX, () -> call.on(on, none));
        }
    }

    private static void noStrokes(Check.Call call) {
        for (int many = 0; many <= 4; many++) {
            noStroke(strokes(many), call);
        }
    }

    // ---- promise 17

    private static void point() {
        new Section("## Promise 17: point")
            .says("Returns a number of a point.", () -> {
                BrushStrokes on = Check.sheet("1,2w3;4,5w6;7,8w9");
                Check.due("each its own", on.point(0, 0, 0) * 100 + on.point(0, 1, 1) * 10 + on.point(0, 2, 2), 159);
                for (int what = 0; what <= 5; what++) {
                    int number = what;
                    Check.changesNothing("what " + what, on, () -> on.point(0, 1, number));
                }
            })
            .says(ITS_NUMBER, () -> {
                BrushStrokes on = strokes(4);
                for (int k = 0; k < 4; k++) {
                    Check.due("stroke " + k, on.point(k, 0, 0), 10 * k + 1);
                }
            })
            .says("`index`: the number of the point", () -> {
                for (int size : new int[] {2, 3, 24}) {
                    Check.range("index", () -> points(size), 0, size - 1, Check.INDEX, (on, index) -> on.point(0, index, 0));
                }
                BrushStrokes on = points(24);
                for (int k = 1; k <= 22; k++) {
                    Check.due("point " + k, on.point(0, k, 0), 2 * k + 2);
                }
            })
            .says("`what`: 0 its x, 1 its y, 2 its width, 3 1 if it is kept, otherwise 0, 4 the sum of 1 if it is an end, 2 if it "
                + "is a corner, and 4 if it is a waist, 5 its stray in hundredths", () -> {
                    Check.range("what", () -> points(3), 0, 5, Check.ARGUMENT, (on, what) -> on.point(0, 1, what));
                    numbersOfPoints();
                })
            .says(RETURNS_NUMBER, () -> {
                BrushStrokes on = Check.sheet("0,0w1;99,99w20;0,99w1");
                Check.due("the least", on.point(0, 0, 0) + on.point(0, 0, 1) + on.point(0, 0, 5), 0);
                Check.due("the greatest", on.point(0, 1, 0) * 10000 + on.point(0, 1, 1) * 100 + on.point(0, 1, 2), 999920);
            })
            .says(NO_STROKE_OR_POINT, () -> {
                noStrokes((on, number) -> on.point(number, 0, 0));
                for (int size : new int[] {2, 3, 23, 24}) {
                    BrushStrokes on = points(size);
                    for (int number : NO_NUMBER) {
                        Check.fails("point " + number, on, Check.INDEX, () -> on.point(0, number, 0));
                    }
                    Check.fails("point " + size, on, Check.INDEX, () -> on.point(0, size, 0));
                }
            })
            .says("Throws `IllegalArgumentException` if what is not 0 to 5", () -> {
                BrushStrokes on = points(3);
                for (int what : new int[] {Integer.MIN_VALUE, -1, 6, 7, 10, Integer.MAX_VALUE}) {
                    Check.fails("what " + what, on, Check.ARGUMENT, () -> on.point(0, 1, what));
                }
            })
            .end();
    }

    private static String tells(BrushStrokes on, int what) {
        String all = "";
        for (int k = 0; k < on.strokeOf(0, 0); k++) {
            all += on.point(0, k, what) + " ";
        }
        return all;
    }

    private static void numbersOfPoints() {
        BrushStrokes on = Check.sheet("0,50w9;10,51w4;20,50w9;30,50w9;30,60w5;30,50w9;40,52w9;50,50w9");
        on.simplify(0, 0);
        Check.due("0", tells(on, 0), "0 10 20 30 30 30 40 50 ");
        Check.due("1", tells(on, 1), "50 51 50 50 60 50 52 50 ");
        Check.due("2", tells(on, 2), "9 4 9 9 5 9 9 9 ");
        Check.due("3", tells(on, 3), "1 1 0 1 1 1 0 1 ");
        Check.due("4", tells(on, 4), "1 4 0 2 6 2 0 1 ");
        Check.due("5: root of 100 / 401, and 2", tells(on, 5), "0 0 49 0 0 0 200 0 ");
    }

    // ---- promise 18

    private static void strokeOf() {
        new Section("## Promise 18: strokeOf")
            .says("Returns a number of a stroke.", () -> {
                BrushStrokes on = dropped("0,0;10,1;20,0");
                for (int what = 0; what <= 10; what++) {
                    int number = what;
                    Check.changesNothing("what " + what, on, () -> on.strokeOf(0, number));
                }
            })
            .says(ITS_NUMBER, () -> {
                BrushStrokes on = strokes(4);
                for (int k = 0; k < 4; k++) {
                    Check.due("stroke " + k, on.strokeOf(k, 7), 89 - 10 * k);
                }
            })
            .says("`what`: 0 its points, 1 those that are kept, 2 its corners, 3 its waists, 4 the sum of the roots of 10000 times "
                + "the squares of the vectors from each kept point to the next one, 5 the greatest stray in hundredths, 6 the "
                + "first point with this stray, 7 the greatest x of all points less the least one, 8 likewise for y, 9 the "
                + "sharp joins: the kept points, other than the ends, that would be corners with the setting 3 in place of the "
                + "setting 1 in a stroke of only the kept points, 10 the kept points as a bit mask", () -> {
                    Check.range("what", () -> points(3), 0, 10, Check.ARGUMENT, (on, what) -> on.strokeOf(0, what));
                    pointsAndKinds();
                    lengths();
                    greatestStrays();
                    spans();
                    sharpJoins();
                    masks();
                })
            .says(RETURNS_NUMBER, () -> {
                BrushStrokes two = new BrushStrokes();
                two.stroke(5, 5, 5, 5);
                int[] want = {2, 2, 0, 0, 0, 0, 0, 0, 0, 0, 3};
                for (int what = 0; what <= 10; what++) {
                    Check.due("the least of " + what, two.strokeOf(0, what), want[what]);
                }
            })
            .says(NO_STROKE, () -> {
                for (int what = 0; what <= 10; what++) {
                    int number = what;
                    noStrokes((on, stroke) -> on.strokeOf(stroke, number));
                }
            })
            .says("Throws `IllegalArgumentException` if what is not 0 to 10", () -> {
                BrushStrokes on = points(3);
                for (int what : new int[] {Integer.MIN_VALUE, -1, 11, 12, Integer.MAX_VALUE}) {
                    Check.fails("what " + what, on, Check.ARGUMENT, () -> on.strokeOf(0, what));
                }
            })
            .end();
    }

    private static void pointsAndKinds() {
        Check.due("0, the least", strokes(1).strokeOf(0, 0), 2);
        Check.due("0, the greatest", points(24).strokeOf(0, 0), 24);
        BrushStrokes line = dropped("0,0;10,0;20,0;30,0");
        Check.due("0 and 1, when some are not kept", line.strokeOf(0, 0) * 10 + line.strokeOf(0, 1), 42);
        Check.due("1, the greatest", points(24).strokeOf(0, 1), 24);
        BrushStrokes on = Check.sheet("0,0w9;20,0w5;0,0w9;20,0w5;20,10w9");
        Check.due("2 and 3, no ends", on.strokeOf(0, 2) * 10 + on.strokeOf(0, 3), 32);
        on.set(2, 5);
        Check.due("3, with the setting 2", on.strokeOf(0, 3), 0);
        on.set(1, 0);
        Check.due("2, with the setting 1", on.strokeOf(0, 2), 2);
        BrushStrokes notKept = dropped("0,0w9;20,0w5;20,20w9;40,20w9");
        Check.due("2 and 3, of all points", notKept.strokeOf(0, 1), 3);
        notKept.set(2, 20);
        notKept.simplify(0, 0);
        notKept.set(1, 1);
        notKept.set(2, 4);
        Check.due("2 and 3, of points that are not kept too", notKept.strokeOf(0, 1) * 100 + notKept.strokeOf(0, 2) * 10
            + notKept.strokeOf(0, 3), 221);
    }

    private static void lengths() {
        Check.due("4, each root by itself", Check.sheet("0,0;1,1;2,2;3,3").strokeOf(0, 4), 3 * 141);
        Check.due("4, the greatest segment", Check.sheet("0,0;99,99").strokeOf(0, 4), 14000);
        Check.due("4, there and back", Check.sheet("0,0;99,99;0,0").strokeOf(0, 4), 28000);
        Check.due("4, of points at one place", Check.sheet("5,5;5,5;8,9").strokeOf(0, 4), 500);
        BrushStrokes on = smooth("0,0;10,3;20,0");
        Check.due("4, all kept", on.strokeOf(0, 4), 2 * 1044);
        on.simplify(0, 0);
        Check.due("4, only kept points", on.strokeOf(0, 4), 2000);
    }

    private static void strays(String what, BrushStrokes on, int greatest, int first) {
        Check.due("5, " + what, on.strokeOf(0, 5), greatest);
        Check.due("6, " + what, on.strokeOf(0, 6), first);
    }

    private static void greatestStrays() {
        strays("all kept", Check.sheet("0,0;10,50;20,0"), 0, 0);
        strays("none strays", dropped("0,0;10,0;20,0;30,0"), 0, 0);
        strays("the last strays", dropped("0,0;10,0;20,1;30,0"), 100, 2);
        strays("of two as far the first", dropped("0,0;10,1;20,3;30,3;40,0"), 300, 2);
        strays("on both sides as far", dropped("0,5;10,3;20,5;30,7;40,5"), 200, 1);
        strays("a greater one behind", dropped("0,0;10,2;20,3;30,4;40,3;50,0"), 400, 3);
        strays("behind a kept one", dropped("0,0w9;10,1w9;20,0w5;30,2w9;40,0w9"), 200, 3);
        strays("a kept one is far away", dropped("0,0w9;10,40w1;20,40w9;30,20w9"), 707, 2);
        BrushStrokes on = dropped("0,0;10,3;20,0");
        on.set(0, 0);
        on.set(1, 100);
        strays("the settings do not matter", on, 300, 1);
    }

    private static void spans() {
        BrushStrokes on = Check.sheet("50,50;99,40;0,60;50,0;50,99");
        Check.due("7, the greatest", on.strokeOf(0, 7), 99);
        Check.due("8, the greatest", on.strokeOf(0, 8), 99);
        BrushStrokes kept = dropped("10,10;30,15;50,10");
        Check.due("8, of points that are not kept too", kept.strokeOf(0, 1) * 10 + kept.strokeOf(0, 8), 25);
        BrushStrokes across = dropped("10,10;15,30;10,50");
        Check.due("7, of points that are not kept too", across.strokeOf(0, 1) * 10 + across.strokeOf(0, 7), 25);
        Check.due("7, the first is the greatest", Check.sheet("9,1;3,2").strokeOf(0, 7), 6);
        Check.due("8, of two", Check.sheet("9,1;3,2").strokeOf(0, 8), 1);
    }

    private static void joins(String what, String text, int join, int want) {
        BrushStrokes on = Check.sheet(text);
        on.set(3, join);
        Check.due("9, " + what + " with " + join, on.strokeOf(0, 9), want);
    }

    private static void sharpJoins() {
        joins("straight back", "0,0;20,0;10,0", 0, 1);
        joins("a right angle", "0,0;20,0;20,20", 0, 0);
        joins("a right angle", "0,0;20,0;20,20", 1, 1);
        joins("p * p * 10000 is 60 * 60 * q", "0,0;20,0;50,40", 60, 0);
        joins("p * p * 10000 is 60 * 60 * q", "0,0;20,0;50,40", 61, 1);
        joins("straight on", "0,0;20,0;40,0", 100, 0);
        joins("hardly bent", "0,0;50,0;99,1", 100, 1);
        joins("at one place", "0,0;20,0;20,0;20,20", 100, 0);
        joins("no ends", "0,0;20,20", 100, 0);
        joins("a waist", "0,0w9;20,0w5;40,0w9", 100, 0);
        joins("all but the ends", "0,0;20,0;0,0;20,0;0,0", 20, 3);
        BrushStrokes on = Check.sheet("0,0;20,0;20,20;40,20;60,40");
        on.set(1, 100);
        Check.due("9, the setting 1 does not matter", on.strokeOf(0, 9), 2);
        on.set(1, 0);
        on.set(0, 50);
        on.simplify(0, 0);
        on.set(3, 100);
        Check.due("9, only kept points", on.strokeOf(0, 1) * 10 + on.strokeOf(0, 9), 20);
        // the waist is no corner among all points, but among the kept ones
        BrushStrokes waist = dropped("0,0w9;40,0w9;50,4w9;55,9w1;59,19w9;59,60w9");
        waist.set(3, 60);
        Check.due("9, a stroke of only the kept points", waist.strokeOf(0, 1) * 100 + waist.strokeOf(0, 2) * 10
            + waist.strokeOf(0, 9), 301);
        waist.bake(0);
        Check.due("9, as if the others were gone", waist.strokeOf(0, 9), 1);
    }

    private static void masks() {
        Check.due("10, of two", strokes(1).strokeOf(0, 10), 0b11);
        Check.due("10, of 24", points(24).strokeOf(0, 10), (1 << 24) - 1);
        BrushStrokes on = points(24);
        on.simplify(0, 0);
        Check.due("10, the first and the last of 24", on.strokeOf(0, 10), (1 << 23) + 1);
        Check.due("10, bit k for the point k", dropped("0,0w9;10,0w5;20,0w9;30,0w9").strokeOf(0, 10), 0b1011);
    }

    // ---- promise 19

    private static void distance() {
        new Section("## Promise 19: distance")
            .says("Returns the distance of a point from the segment between two other points of its stroke.", () -> {
                BrushStrokes on = Check.sheet("0,0;10,0;3,4;13,4");
                Check.due("beside it", on.distance(0, 2, 0, 1), 400);
                Check.due("before it", on.distance(0, 2, 1, 3), 806);
                Check.due("behind it", on.distance(0, 3, 0, 1), 500);
                Check.due("the other way round", on.distance(0, 3, 1, 0), 500);
                Check.due("from one place", on.distance(0, 2, 0, 0), 500);
                Check.due("itself at the beginning", on.distance(0, 2, 2, 1), 0);
                Check.due("itself at the end", on.distance(0, 2, 1, 2), 0);
                on.stroke(50, 50, 60, 60);
                Check.due("of its stroke", on.distance(1, 0, 1, 1), 1414);
                Check.changesNothing("distance()", on, () -> on.distance(0, 3, 0, 1));
            })
            .says(ITS_NUMBER, () -> {
                BrushStrokes on = strokes(4);
                for (int k = 0; k < 4; k++) {
                    on.change(k, 0, 10, 10, 5);
                    on.change(k, 1, 10, 10 + 20 * k, 5);
                    Check.due("stroke " + k, on.distance(k, 0, 1, 1), 2000 * k);
                }
            })
            .says("`index`: the number of the point", () -> {
                for (int size : new int[] {2, 3, 24}) {
                    Check.range("index", () -> points(size), 0, size - 1, Check.INDEX, (on, index) -> on.distance(0, index, 0, 1));
                }
                BrushStrokes on = points(24);
                Check.due("point 23", on.distance(0, 23, 0, 22), 4401);
            })
            .says("`from`: the number of a point", () -> {
                for (int size : new int[] {2, 3, 24}) {
                    Check.range("from", () -> points(size), 0, size - 1, Check.INDEX, (on, from) -> on.distance(0, 0, from, 1));
                }
                BrushStrokes on = points(24);
                Check.due("point 23", on.distance(0, 22, 23, 23), 4401);
            })
            .says("`to`: the number of a point", () -> {
                for (int size : new int[] {2, 3, 24}) {
                    Check.range("to", () -> points(size), 0, size - 1, Check.INDEX, (on, to) -> on.distance(0, 0, 1, to));
                }
                BrushStrokes on = points(24);
                Check.due("point 23", on.distance(0, 23, 22, 23), 0);
            })
            .says("Returns the distance in hundredths.", () -> {
                BrushStrokes on = Check.sheet("0,0;99,99;99,0;1,0;5,1;3,4");
                Check.due("the least", on.distance(0, 0, 0, 0), 0);
                Check.due("the greatest", on.distance(0, 1, 0, 0), 14000);
                Check.due("one", on.distance(0, 3, 0, 0), 100);
                Check.due("rounded down", on.distance(0, 2, 0, 1), 7000);
                Check.due("3.4", on.distance(0, 4, 0, 5), 340);
            })
            .says(NO_STROKE_OR_POINT, () -> {
                noStrokes((on, number) -> on.distance(number, 0, 0, 1));
                for (int size : new int[] {2, 3, 23, 24}) {
                    BrushStrokes on = points(size);
                    for (int number : NO_NUMBER) {
                        Check.fails("index " + number, on, Check.INDEX, () -> on.distance(0, number, 0, 1));
                        Check.fails("from " + number, on, Check.INDEX, () -> on.distance(0, 0, number, 1));
                        Check.fails("to " + number, on, Check.INDEX, () -> on.distance(0, 0, 1, number));
                    }
                    Check.fails("index " + size, on, Check.INDEX, () -> on.distance(0, size, 0, 1));
                    Check.fails("from " + size, on, Check.INDEX, () -> on.distance(0, 0, size, 1));
                    Check.fails("to " + size, on, Check.INDEX, () -> on.distance(0, 0, 1, size));
                }
            })
            .end();
    }

    // ---- promise 20

    private static void crossings() {
        new Section("## Promise 20: crossings")
            .says("Counts the crossings of a simplified stroke: the pairs of segments between kept points that follow one another, "
                + "where the pairs are not neighbours, whose ends lie strictly on both sides of one another.", () -> {
                    crossingPairs();
                    keptPairs();
                })
            .says(ITS_NUMBER, () -> {
                BrushStrokes on = new BrushStrokes();
                Check.draw(on, "0,0;20,20");
                Check.draw(on, "0,0;20,20;20,0;0,20");
                Check.draw(on, "0,0;20,20;20,0");
                Check.draw(on, "50,0;20,90;99,30;0,30;80,90;50,0");
                int[] want = {0, 1, 0, 5};
                for (int k = 0; k < 4; k++) {
                    Check.due("stroke " + k, on.crossings(k), want[k]);
                }
            })
            .says("Returns the number of pairs.", () -> {
                Check.due("of one segment", Check.sheet("0,0;20,20").crossings(0), 0);
                Check.due("of two segments", Check.sheet("0,0;20,20;0,20").crossings(0), 0);
                Check.due("of three segments", Check.sheet("0,0;20,20;20,0;0,20").crossings(0), 1);
                Check.due("all at one place, as pairs", Check.sheet("0,10;20,10;20,0;0,20;0,0;20,20").crossings(0), 3);
                Check.due("of 23 segments", Check.sheet(STAR).crossings(0), 230);
                BrushStrokes on = Check.sheet(STAR);
                Check.changesNothing("crossings()", on, () -> on.crossings(0));
            })
            .says(NO_STROKE, () -> noStrokes((on, number) -> on.crossings(number)))
            .end();
    }

    private static void crossingPairs() {
        Check.due("strictly", Check.sheet("0,10;20,10;20,0;10,20").crossings(0), 1);
        Check.due("an end on the other", Check.sheet("0,10;20,10;20,0;10,10").crossings(0), 0);
        Check.due("1 beyond it", Check.sheet("0,10;20,10;20,0;10,11").crossings(0), 1);
        Check.due("1 before it", Check.sheet("0,10;20,10;20,0;10,9").crossings(0), 0);
        Check.due("the other's end on it", Check.sheet("10,10;20,20;30,0;10,10").crossings(0), 0);
        Check.due("a beginning on the other", Check.sheet("0,10;20,10;10,10;10,20").crossings(0), 0);
        Check.due("the lines cross, the segments do not", Check.sheet("0,0;10,10;50,0;20,40").crossings(0), 0);
        Check.due("one on both sides, the other not", Check.sheet("0,10;10,10;20,0;20,20").crossings(0), 0);
        Check.due("the other on both sides, the one not", Check.sheet("20,0;20,20;0,10;10,10").crossings(0), 0);
        Check.due("on one line", Check.sheet("0,0;20,0;10,0;30,0").crossings(0), 0);
        Check.due("on one line, not neighbours", Check.sheet("0,0;20,0;20,5;30,0;10,0").crossings(0), 0);
        Check.due("the first and the last meet", Check.sheet("0,0;20,0;20,20;0,0").crossings(0), 0);
        Check.due("neighbours", Check.sheet("0,0;20,0;10,0;30,0;5,0").crossings(0), 0);
        Check.due("a segment without length", Check.sheet("0,10;20,10;20,20;10,10;10,10").crossings(0), 0);
        Check.due("over the greatest place", Check.sheet("0,0;99,99;99,0;0,99").crossings(0), 1);
        Check.due("each pair once", Check.sheet("0,10;40,10;40,0;10,20;10,30;20,0").crossings(0), 3);
    }

    private static void keptPairs() {
        // without the bump the last segment ends at another side of the first one
        BrushStrokes on = Check.sheet("0,20;20,23;40,20;40,40;22,40;22,21");
        Check.due("of all points, as all are kept", on.crossings(0), 1);
        Check.due("one is not kept", on.simplify(0, 0), 5);
        Check.due("of the kept points", on.crossings(0), 0);
        BrushStrokes other = Check.sheet("0,20;20,17;40,20;40,40;22,40;22,19");
        Check.due("of all points, as all are kept", other.crossings(0), 0);
        other.simplify(0, 0);
        Check.due("of the kept points", other.crossings(0), 1);
        // the point 1 or 3 lies on a segment that is crossed behind it
        for (String text : new String[] {"0,10;5,10;20,10;20,0;10,20", "0,10;18,10;20,10;20,0;10,20", "0,10;20,10;20,0;18,4;10,20",
            "0,10;20,10;20,0;12,16;10,20"}) {
            BrushStrokes once = smooth(text);
            once.set(0, 0);
            Check.due("four are kept of " + text, once.simplify(0, 0), 4);
            Check.due("crossings of " + text, once.crossings(0), 1);
        }
        // the segments from 0 to 2 and from 2 to 4 are neighbours, though 0 to 1 and 3 to 4 were not
        BrushStrokes neighbours = smooth("0,0w9;20,1w9;40,0w1;20,0w9;1,2w9");
        neighbours.set(0, 5);
        Check.due("three are kept", neighbours.simplify(0, 0), 3);
        Check.due("neighbours", neighbours.crossings(0), 0);
    }

    // ---- promise 21

    private static void count() {
        new Section("## Promise 21: count")
            .says("Returns a number.", () -> {
                BrushStrokes on = dropped("0,0;10,0;20,0");
                for (int what = 0; what <= 6; what++) {
                    int number = what;
                    Check.changesNothing("what " + what, on, () -> on.count(number));
                }
            })
            .says("`what`: 0 the strokes, 1 the points of all strokes, 2 the kept points of all strokes, 3 how often a stroke was "
                + "simplified so far, 4 how many points were not kept behind these, all together (each time all of them), 5 the "
                + "number of saved states, 6 the length of the buffer", () -> {
                    Check.range("what", BrushStrokes::new, 0, 6, Check.ARGUMENT, (on, what) -> on.count(what));
                    strokesAndPoints();
                    simplifiedSoFar();
                    savedAndTyped();
                })
            .says(RETURNS_NUMBER, () -> {
                for (int what = 0; what <= 6; what++) {
                    Check.due("the least of " + what, new BrushStrokes().count(what), 0);
                }
            })
            .says("Throws `IllegalArgumentException` if what is not 0 to 6", () -> {
                for (BrushStrokes on : new BrushStrokes[] {new BrushStrokes(), points(3)}) {
                    for (int what : new int[] {Integer.MIN_VALUE, -1, 7, 8, Integer.MAX_VALUE}) {
                        Check.fails("what " + what, on, Check.ARGUMENT, () -> on.count(what));
                    }
                }
            })
            .end();
    }

    private static void strokesAndPoints() {
        BrushStrokes on = new BrushStrokes();
        for (int many = 1; many <= 4; many++) {
            on.stroke(0, 0, 92, 0);
            for (int k = 1; k <= 22; k++) {
                on.insert(many - 1, k, 4 * k, 0, 5);
            }
            Check.due("0, 1 and 2", on.count(0) * 10000 + on.count(1) * 100 + on.count(2), 10000 * many + 24 * 101 * many);
        }
        on.simplify(1, 0);
        Check.due("2, one simplified", on.count(1) * 100 + on.count(2), 9600 + 74);
        on.simplify(3, 1);
        Check.due("2, two simplified", on.count(1) * 100 + on.count(2), 9600 + 52);
        on.bake(3);
        Check.due("1, one baked", on.count(1) * 100 + on.count(2), 7400 + 52);
        on.erase(0);
        Check.due("all, one gone", on.count(0) * 10000 + on.count(1) * 100 + on.count(2), 30000 + 5000 + 28);
    }

    private static void simplified(String what, BrushStrokes on, int times, int points) {
        Check.due("3, " + what, on.count(3), times);
        Check.due("4, " + what, on.count(4), points);
    }

    private static void simplifiedSoFar() {
        BrushStrokes on = Check.sheet("0,0;10,0;20,0;30,0;40,0");
        simplified("at first", on, 0, 0);
        on.simplify(0, 0);
        simplified("once", on, 1, 3);
        on.simplify(0, 0);
        simplified("each time all of them", on, 2, 6);
        on.simplify(0, 1);
        simplified("by the other way", on, 3, 9);
        on.stroke(0, 0, 9, 9);
        on.simplify(1, 0);
        simplified("nothing to drop", on, 4, 9);
        on.bake(0);
        on.change(0, 0, 5, 5, 5);
        on.ifSimplified(0, 3, 0);
        on.leastBound(0, 2, 1);
        simplified("by no other call", on, 4, 9);
        on.erase(0);
        on.erase(0);
        simplified("so far, though the strokes are gone", on, 4, 9);
        BrushStrokes most = points(24);
        for (int k = 1; k <= 400; k++) {
            most.simplify(0, k % 2);
        }
        simplified("often", most, 400, 400 * 22);
    }

    private static void savedAndTyped() {
        BrushStrokes on = new BrushStrokes();
        for (int k = 0; k <= 8; k++) {
            Check.due("5", on.count(5), Math.min(k, 6));
            on.set(0, k);
        }
        for (int k = 0; k < 70; k++) {
            Check.due("6", on.count(6), k);
            on.append('x');
        }
        Check.due("6, the greatest", on.count(6), 70);
    }

    // ---- promise 22

    private static void setting() {
        new Section("## Promise 22: setting")
            .says("Returns a setting.", () -> {
                BrushStrokes on = new BrushStrokes();
                for (int k = 0; k < 4; k++) {
                    int number = k;
                    Check.changesNothing("setting " + k, on, () -> on.setting(number));
                }
            })
            .says("`setting`: 0 to 3", () -> Check.range("setting", BrushStrokes::new, 0, 3, Check.INDEX,
                (on, number) -> on.setting(number)))
            .says("Returns its value.", () -> {
                int[] first = {3, 50, 4, 20};
                int[] least = {0, 0, 1, 0};
                int[] greatest = {50, 100, 20, 100};
                BrushStrokes on = new BrushStrokes();
                for (int k = 0; k < 4; k++) {
                    Check.due("at first, " + k, on.setting(k), first[k]);
                    on.set(k, greatest[k]);
                    Check.due("the greatest, " + k, on.setting(k), greatest[k]);
                    on.set(k, least[k]);
                    Check.due("the least, " + k, on.setting(k), least[k]);
                    on.undo();
                    Check.due("again the greatest, " + k, on.setting(k), greatest[k]);
                }
            })
            .says("Throws `IndexOutOfBoundsException` if there is no such setting", () -> {
                BrushStrokes on = new BrushStrokes();
                for (int number : new int[] {Integer.MIN_VALUE, -1, 4, 5, Integer.MAX_VALUE}) {
                    Check.fails("setting " + number, on, Check.INDEX, () -> on.setting(number));
                }
            })
            .end();
    }

    // ---- promise 23

    private static void nearest() {
        new Section("## Promise 23: nearest")
            .says("Finds the point that is nearest to a place, in all strokes; of several the one in the stroke with the lowest "
                + "number, of these the one with the lowest number.", QueriesSentencesTest::nearestPoints)
            .says("`x`: 0 to 99", () -> Check.range("x", () -> strokes(1), 0, 99, Check.ARGUMENT, (on, x) -> on.nearest(x, 0)))
            .says("`y`: 0 to 99", () -> Check.range("y", () -> strokes(1), 0, 99, Check.ARGUMENT, (on, y) -> on.nearest(0, y)))
            .says("Returns 100 times the number of the stroke, plus the number of the point; NONE if there are no strokes.", () -> {
                BrushStrokes on = new BrushStrokes();
                Check.due("no strokes", on.nearest(0, 0), BrushStrokes.NONE);
                Check.due("no strokes", on.nearest(99, 99), BrushStrokes.NONE);
                for (int many = 1; many <= 4; many++) {
                    on.stroke(20 * many, 0, 20 * many, 23);
                    for (int k = 1; k <= 22; k++) {
                        on.insert(many - 1, k, 20 * many, k, 5);
                    }
                    for (int k = 0; k < 24; k++) {
                        Check.due("the nearest", on.nearest(20 * many, k), 100 * (many - 1) + k);
                    }
                }
                for (int k = 0; k < 4; k++) {
                    on.erase(0);
                }
                Check.due("no strokes again", on.nearest(50, 50), BrushStrokes.NONE);
            })
            .says(OUT_OF_RANGE, () -> {
                for (BrushStrokes on : new BrushStrokes[] {new BrushStrokes(), strokes(4)}) {
                    for (int number : new int[] {Integer.MIN_VALUE, -1, 100, Integer.MAX_VALUE}) {
                        Check.fails("x " + number, on, Check.ARGUMENT, () -> on.nearest(number, 5));
                        Check.fails("y " + number, on, Check.ARGUMENT, () -> on.nearest(5, number));
                    }
                }
            })
            .end();
    }

    private static void nearestPoints() {
        BrushStrokes on = new BrushStrokes();
        on.stroke(10, 10, 30, 10);
        on.stroke(30, 10, 50, 10);
        on.stroke(50, 10, 50, 10);
        Check.due("of points in two strokes at one place the first", on.nearest(30, 10), 1);
        Check.due("of points in two strokes as far", on.nearest(40, 50), 1);
        Check.due("of points in two strokes at one place the second", on.nearest(60, 10), 101);
        Check.due("of two points of a stroke as far", on.nearest(20, 50), 0);
        Check.due("one nearer to the first", on.nearest(19, 50), 0);
        Check.due("one nearer to the second", on.nearest(21, 50), 1);
        on.erase(0);
        on.erase(0);
        Check.due("of two points of a stroke at one place", on.nearest(0, 99), 0);
        on.insert(0, 0, 51, 10, 5);
        Check.due("the nearer one behind it", on.nearest(50, 9), 1);
        // 25 = 9 + 16, and the sum of 3 and 4 is more than 6
        BrushStrokes far = Check.sheet("56,50;53,54;0,0");
        Check.due("by the squares", far.nearest(50, 50), 1);
        Check.due("over the greatest distance", Check.sheet("0,0;0,1").nearest(99, 99), 1);
        BrushStrokes notKept = dropped("0,0;10,0;20,0");
        Check.due("points that are not kept too", notKept.strokeOf(0, 1) * 10 + notKept.nearest(10, 0), 21);
        Check.changesNothing("nearest()", notKept, () -> notKept.nearest(5, 5));
    }

    // ---- promise 24

    private static void ifSimplified() {
        new Section("## Promise 24: ifSimplified")
            .says("Tells how many points simplify() would keep with another bound.", () -> {
                for (String text : new String[] {"0,0;10,3;20,0;30,3;40,0", "0,0;10,0;20,3;30,3;40,0", "5,5;5,5;5,5", STAR,
                    "0,0w9;10,0w5;20,9w9;20,30w9;0,30w9"}) {
                    asSimplifyWould(Check.sheet(text));
                    asSimplifyWould(smooth(text));
                }
                BrushStrokes on = dropped("0,0;10,3;20,0;30,3;40,0");
                on.set(0, 7);
                Check.changesNothing("way 0", on, () -> on.ifSimplified(0, 2, 0));
                Check.changesNothing("way 1", on, () -> on.ifSimplified(0, 2, 1));
                Check.due("from all its points", on.ifSimplified(0, 2, 0), 3);
                on.set(1, 100);
                Check.due("the corners as they are now", on.ifSimplified(0, 50, 0), 5);
            })
            .says(ITS_NUMBER, () -> {
                BrushStrokes on = new BrushStrokes();
                for (int k = 0; k < 4; k++) {
                    Check.draw(on, "0,0;10," + k + ";20,0");
                }
                on.set(1, 0);
                for (int k = 0; k < 4; k++) {
                    Check.due("stroke " + k + ", near enough", on.ifSimplified(k, k, 0), 2);
                    Check.due("stroke " + k + ", not near enough", on.ifSimplified(k, Math.max(k - 1, 0), 0), k == 0 ? 2 : 3);
                }
            })
            .says("`bound`: 0 to 50, in place of the setting 0", () -> {
                Check.range("bound", () -> points(3), 0, 50, Check.ARGUMENT, (on, bound) -> on.ifSimplified(0, bound, 1));
                BrushStrokes on = smooth("0,0;20,50;60,50;75,10;90,0");
                for (int set : new int[] {0, 50}) {
                    on.set(0, set);
                    for (int way = 0; way < 2; way++) {
                        Check.due("the least, way " + way, on.ifSimplified(0, 0, way), 5);
                        Check.due("the greatest, way " + way, on.ifSimplified(0, 50, way), 2);
                    }
                }
            })
            .says("`way`: 0 or 1", () -> {
                Check.range("way", () -> points(3), 0, 1, Check.ARGUMENT, (on, way) -> on.ifSimplified(0, 3, way));
                BrushStrokes on = smooth("0,0;10,0;20,3;30,3;40,0");
                Check.due("0 splits", on.ifSimplified(0, 1, 0), 5);
                Check.due("1 keeps as few as possible", on.ifSimplified(0, 1, 1), 3);
            })
            .says("Returns the number of points.", () -> {
                for (int way = 0; way < 2; way++) {
                    Check.due("the least", strokes(1).ifSimplified(0, 0, way), 2);
                    Check.due("the least of 24", points(24).ifSimplified(0, 50, way), 2);
                    Check.due("the greatest", Check.sheet(STAR).ifSimplified(0, 50, way), 24);
                }
            })
            .says(NO_STROKE, () -> noStrokes((on, number) -> on.ifSimplified(number, 3, 0)))
            .says(OTHER_OUT_OF_RANGE, () -> {
                BrushStrokes on = points(3);
                for (int bound : new int[] {Integer.MIN_VALUE, -1, 51, Integer.MAX_VALUE}) {
                    Check.fails("bound " + bound, on, Check.ARGUMENT, () -> on.ifSimplified(0, bound, 0));
                    Check.fails("bound " + bound, on, Check.ARGUMENT, () -> on.ifSimplified(0, bound, 1));
                }
                for (int way : NO_WAY) {
                    Check.fails("way " + way, on, Check.ARGUMENT, () -> on.ifSimplified(0, 3, way));
                }
            })
            .end();
    }

    private static void asSimplifyWould(BrushStrokes on) {
        for (int way = 0; way < 2; way++) {
            for (int bound = 0; bound <= 50; bound++) {
                int told = on.ifSimplified(0, bound, way);
                on.set(0, bound);
                Check.due("bound " + bound + ", way " + way, told, on.simplify(0, way));
            }
        }
    }

    // ---- promise 25

    private static void leastBound() {
        new Section("## Promise 25: leastBound")
            .says("Finds the least bound, from 0 on, with which simplify() would keep at most some points (whether or not a greater "
                + "bound would keep more again).", QueriesSentencesTest::leastBounds)
            .says(ITS_NUMBER, () -> {
                BrushStrokes on = new BrushStrokes();
                for (int k = 0; k < 4; k++) {
                    Check.draw(on, "0,0;10," + k + ";20,0");
                }
                on.set(1, 0);
                for (int k = 0; k < 4; k++) {
                    Check.due("stroke " + k, on.leastBound(k, 2, 0), k);
                }
            })
            .says("`many`: 2 to 24", () -> {
                Check.range("many", () -> points(3), 2, 24, Check.ARGUMENT, (on, many) -> on.leastBound(0, many, 0));
                Check.range("many", () -> Check.sheet(STAR), 2, 24, Check.ARGUMENT, (on, many) -> on.leastBound(0, many, 1));
                for (int way = 0; way < 2; way++) {
                    Check.due("as many as there are corners", Check.sheet(STAR).leastBound(0, 24, way), 0);
                    Check.due("one less", Check.sheet(STAR).leastBound(0, 23, way), BrushStrokes.NONE);
                }
            })
            .says("`way`: 0 or 1", () -> {
                Check.range("way", () -> points(3), 0, 1, Check.ARGUMENT, (on, way) -> on.leastBound(0, 2, way));
                BrushStrokes on = smooth("0,0;10,0;20,3;30,3;40,0");
                Check.due("0 splits", on.leastBound(0, 3, 0), 2);
                Check.due("1 keeps as few as possible", on.leastBound(0, 3, 1), 1);
            })
            .says("Returns the bound, 0 to 50; NONE if there is none.", () -> {
                for (int way = 0; way < 2; way++) {
                    Check.due("0", smooth("0,0;10,0;20,0").leastBound(0, 2, way), 0);
                    Check.due("1", smooth("0,0;10,1;20,0").leastBound(0, 2, way), 1);
                    Check.due("50, exactly", smooth("0,0;20,50;60,50;90,0").leastBound(0, 2, way), 50);
                    Check.due("50, rounded up", smooth("0,0;30,60;99,27").leastBound(0, 2, way), 50);
                    Check.due("none, 5000 in hundredths", smooth("0,0;35,59;99,22").leastBound(0, 2, way), BrushStrokes.NONE);
                    Check.due("none, as 51 is needed", smooth("0,0;20,51;60,51;90,0").leastBound(0, 2, way), BrushStrokes.NONE);
                    Check.due("none, for a corner", smooth("0,0;10,0;5,0").leastBound(0, 2, way), BrushStrokes.NONE);
                }
            })
            .says(NO_STROKE, () -> noStrokes((on, number) -> on.leastBound(number, 2, 0)))
            .says(OTHER_OUT_OF_RANGE, () -> {
                BrushStrokes on = points(3);
                for (int many : new int[] {Integer.MIN_VALUE, -1, 0, 1, 25, Integer.MAX_VALUE}) {
                    Check.fails("many " + many, on, Check.ARGUMENT, () -> on.leastBound(0, many, 0));
                    Check.fails("many " + many, on, Check.ARGUMENT, () -> on.leastBound(0, many, 1));
                }
                for (int way : NO_WAY) {
                    Check.fails("way " + way, on, Check.ARGUMENT, () -> on.leastBound(0, 2, way));
                }
            })
            .end();
    }

    private static void leastBounds() {
        for (String text : new String[] {"0,0;10,3;20,0;30,3;40,0", "0,0;10,0;20,3;30,3;40,0", "0,0w9;10,0w5;20,9w9;20,30w9;0,30w9",
            "0,50;10,20;20,70;30,30;40,60;50,40;60,50;70,20;80,50", STAR}) {
            for (int way = 0; way < 2; way++) {
                for (int many = 2; many <= 24; many++) {
                    BrushStrokes on = smooth(text);
                    Check.due(text + ", " + many + ", way " + way, on.leastBound(0, many, way), leastByTrying(on, many, way));
                }
            }
        }
        BrushStrokes on = smooth("0,0;10,3;20,0");
        Check.due("as far as the bound", on.leastBound(0, 2, 0) * 10 + on.leastBound(0, 2, 1), 33);
        on.set(0, 50);
        on.simplify(0, 0);
        Check.due("neither the setting 0 nor the kept points matter", on.leastBound(0, 2, 0) * 10 + on.leastBound(0, 2, 1), 33);
        Check.changesNothing("way 0", on, () -> on.leastBound(0, 2, 0));
        Check.changesNothing("way 1", on, () -> on.leastBound(0, 2, 1));
        on.set(1, 100);
        Check.due("the corners as they are now", on.leastBound(0, 2, 1), BrushStrokes.NONE);
    }

    private static int leastByTrying(BrushStrokes on, int many, int way) {
        for (int bound = 0; bound <= 50; bound++) {
            if (on.ifSimplified(0, bound, way) <= many) {
                return bound;
            }
        }
        return BrushStrokes.NONE;
    }

    // ---- promise 26

    private static void share() {
        new Section("## Promise 26: share")
            .says("Returns the share of points that are kept.", () -> {
                BrushStrokes on = dropped("0,0;10,0;20,0;30,0");
                Check.due("half of them", on.share(), 0.5);
                Check.changesNothing("share()", on, () -> (int) on.share());
                on.bake(0);
                Check.due("all that are left", on.share(), 1.0);
            })
            .says("Returns the number of kept points of all strokes as a double, divided by the number of points of all strokes as a "
                + "double; 1.0 without strokes.", () -> {
                    BrushStrokes on = new BrushStrokes();
                    Check.due("without strokes", on.share(), 1.0);
                    on.stroke(0, 0, 9, 9);
                    Check.due("all kept", on.share(), 1.0);
                    Check.draw(on, "0,0;10,0;20,0;30,0;40,0");
                    Check.due("all kept", on.share(), 1.0);
                    on.simplify(1, 0);
                    Check.due("of all strokes", on.share(), 4.0 / 7.0);
                    on.erase(0);
                    Check.due("of the one", on.share(), 2.0 / 5.0);
                    on.erase(0);
                    Check.due("without strokes again", on.share(), 1.0);
                    BrushStrokes most = points(24);
                    most.simplify(0, 0);
                    Check.due("the least", most.share(), 2.0 / 24.0);
                    Check.due("no point strays", smooth("0,0;10,0;20,0").share(), 1.0);
                })
            .end();
    }
}
