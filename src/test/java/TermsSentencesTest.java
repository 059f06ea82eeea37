import java.util.ArrayList;
import java.util.List;

/** 'What it is' and the 'Terms' of the document, sentence by sentence. */
public final class TermsSentencesTest {

    private static final String NUMBERS_0_TO_3 = "0: the bound, 0 to 50, at first 3; 1: the corner, 0 to 100, at first 50; "
            + "2: the waist, 1 to 20, at first 4; 3: the join, 0 to 100, at first 20.";
    private static final String SEVENTEEN = "0,0;1,1;2,2;3,3;4,4;5,5;6,6;7,7;8,8;9,9;8,8;7,7;6,6;5,5;4,4;3,3;2,2";

    // FaceTest has the public face, and what is not promised needs no test
    private static final String[] HEADINGS = {"# BrushStrokes", "## What it is", "## The public face", "## Terms",
        "### Strokes", "### Distances", "### Fixed points", "### Simplifying", "### Settings", "### Stroke text",
        "### Undo and snapshots", "### Exceptions", "## Not promised"};

    public static void main(String[] args) {
        if (Section.isThere()) {
            headings();
        } else {
            System.out.println("the document is not there, so that its sentences are not compared");
        }
        whatItIs();
        numbers();
        strokes();
        distances();
        fixedPoints();
        simplifying();
        settings();
        strokeText();
        undoAndSnapshots();
        exceptions();
        Check.end();
    }

    private static void headings() {
        List<String> others = new ArrayList<>(Section.headings());
        for (String heading : HEADINGS) {
            Check.due("there is the heading " + heading, others.remove(heading), true);
        }
        for (int k = 1; k <= 26; k++) {
            String promise = "## Promise " + k + ": ";
            Check.due("there is one " + promise, others.removeIf(heading -> heading.startsWith(promise)), true);
        }
        Check.due("other headings", others, List.of());
    }

    // ---- what it is

    private static void whatItIs() {
        new Section("## What it is")
            .explains("Brush strokes that are simplified: points with widths, corners and thin waists that are always kept, "
                + "points that are dropped as long as they stray no farther than a bound, two ways to simplify, the farthest "
                + "strays, lengths, joins that are too sharp, segments that cross, the least bound for a number of points, "
                + "and strokes that are read from texts.")
            .says("An object is used for at most 512 calls after it has been made; what later calls answer is free.",
                TermsSentencesTest::callsUpTo512)
            .end();
    }

    private static void callsUpTo512() {
        BrushStrokes settings = new BrushStrokes();
        for (int call = 1; call <= 512; call++) {
            Check.due("set(), call " + call, settings.set(1, call % 101), call == 1 ? 50 : (call - 1) % 101);
        }
        BrushStrokes strokes = new BrushStrokes();
        for (int call = 1; call <= 512; call += 2) {
            Check.due("stroke(), call " + call, strokes.stroke(1, 2, 3, 4), 0);
            Check.due("erase(), call " + (call + 1), strokes.erase(0), 0);
        }
        BrushStrokes simplified = twentyFour();
        for (int call = 24; call < 512; call++) {
            Check.due("simplify(), call " + call, simplified.simplify(0, call % 2), 2);
        }
        Check.due("count(4), call 512", simplified.count(4), 22 * (512 - 24));
        BrushStrokes texts = new BrushStrokes();
        for (int call = 1; call <= 512; call++) {
            int place = (call - 1) % 71;
            Check.due("the buffer, call " + call, place < 70 ? texts.append('0') : texts.clearBuffer(), Math.min(place + 1, 70));
        }
        BrushStrokes undone = new BrushStrokes();
        for (int call = 1; call <= 512; call += 2) {
            Check.due("set(), call " + call, undone.set(0, 7), 3);
            Check.due("undo(), call " + (call + 1), undone.undo(), 0);
        }
        BrushStrokes states = new BrushStrokes();
        for (int call = 1; call <= 510; call += 3) {
            Check.due("keep(), call " + call, states.keep(call % 2), 0);
            Check.due("stroke(), call " + (call + 1), states.stroke(0, 0, 9, 9), 0);
            Check.due("goBack(), call " + (call + 2), states.goBack(call % 2), 0);
        }
        Check.due("count(5), call 511", states.count(5), 6);
        Check.due("undo(), call 512", states.undo(), 5);
    }

    /** 24 points on a line, by 23 calls. */
    private static BrushStrokes twentyFour() {
        BrushStrokes on = new BrushStrokes();
        on.stroke(0, 0, 92, 0);
        for (int k = 1; k <= 22; k++) {
            on.insert(0, k, 4 * k, 0, 5);
        }
        return on;
    }

    // ---- numbers

    private static void numbers() {
        new Section("## Terms")
            .explains("All numbers are integers, unless a double is mentioned.")
            .says("Divisions round toward zero.", TermsSentencesTest::divisions)
            .says("The root of a number that is 0 or more is the greatest whole number whose square is at most this number.",
                TermsSentencesTest::roots)
            .end();
    }

    private static void divisions() {
        // 10000 * 64 / 197 is 3248.73; 3249 is the square of 57
        Check.due("3248.73", Check.sheet("0,0;0,8;1,14").distance(0, 1, 0, 2), 56);
        // 10000 / 401 is 24.94; 25 is the square of 5
        Check.due("24.94", Check.sheet("0,0;0,1;1,20").distance(0, 1, 0, 2), 4);
    }

    private static void roots() {
        BrushStrokes on = Check.sheet("0,0;0,8;1,14;3,4;0,1;1,1;99,99;99,0");
        Check.due("of 0", on.distance(0, 0, 0, 0), 0);
        Check.due("of 3248, one less than a square", on.distance(0, 1, 0, 2), 56);
        Check.due("of 250000, a square", on.distance(0, 3, 0, 0), 500);
        Check.due("of 10000, a square", on.distance(0, 4, 0, 0), 100);
        Check.due("of 20000", on.distance(0, 5, 0, 0), 141);
        Check.due("of 196020000, the greatest", on.distance(0, 6, 0, 0), 14000);
        Check.due("of 98010000, a square", on.distance(0, 7, 0, 0), 9900);
    }

    // ---- strokes

    private static void strokes() {
        new Section("### Strokes")
            .says("There are at most 4 strokes, numbered from 0 in the order in which they came; when one goes, the numbers of "
                + "the later ones become less by 1.", TermsSentencesTest::fourStrokes)
            .says("A stroke has 2 to 24 points, numbered from 0.", TermsSentencesTest::twoToTwentyFourPoints)
            .says("A point has an x and a y from 0 to 99 and a width from 1 to 20.", TermsSentencesTest::numbersOfPoints)
            .says("Two points of a stroke can be at the same place.", TermsSentencesTest::samePlace)
            .explains("The product of two vectors (a, b) and (c, d) is a * c + b * d.")
            .explains("The square of a vector is its product with itself.")
            .end();
    }

    private static String firstPlaces(BrushStrokes on) {
        StringBuilder all = new StringBuilder();
        for (int k = 0; k < on.count(0); k++) {
            all.append(on.point(k, 0, 0));
        }
        return all.toString();
    }

    private static void fourStrokes() {
        BrushStrokes on = new BrushStrokes();
        Check.fails("none at first", on, Check.INDEX, () -> on.erase(0));
        Check.due("the first", on.stroke(1, 0, 0, 0), 0);
        Check.due("the second", Check.draw(on, "2,0;0,0"), 1);
        Check.due("the third", on.stroke(3, 0, 0, 0), 2);
        Check.due("the fourth", Check.draw(on, "4,0;0,0"), 3);
        Check.fails("a fifth", on, Check.STATE, () -> on.stroke(5, 0, 0, 0));
        Check.type(on, "5,0;0,0");
        Check.fails("a fifth", on, Check.STATE, () -> on.draw());
        Check.due("in their order", firstPlaces(on), "1234");
        Check.due("an inner one goes", on.erase(1), 3);
        Check.due("those behind it", firstPlaces(on), "134");
        Check.fails("the number 3", on, Check.INDEX, () -> on.strokeOf(3, 0));
        Check.due("a new one comes last", on.draw(), 3);
        Check.due("behind the others", firstPlaces(on), "1345");
        on.erase(0);
        Check.due("the first went", firstPlaces(on), "345");
        on.erase(2);
        Check.due("the last went", firstPlaces(on), "34");
        on.erase(0);
        on.erase(0);
        Check.due("from 0 again", on.stroke(6, 0, 0, 0), 0);
    }

    private static void twoToTwentyFourPoints() {
        BrushStrokes on = new BrushStrokes();
        on.stroke(0, 0, 99, 0);
        Check.fails("one point less than two", on, Check.STATE, () -> on.remove(0, 0));
        Check.fails("the number 2 of two", on, Check.INDEX, () -> on.point(0, 2, 0));
        Check.fails("the number -1", on, Check.INDEX, () -> on.point(0, -1, 0));
        Check.due("three", on.insert(0, 1, 1, 0, 5), 3);
        Check.due("two again", on.remove(0, 1), 2);
        for (int size = 3; size <= 24; size++) {
            Check.due("points", on.insert(0, size - 2, size, 0, 5), size);
        }
        Check.due("the number 0", on.point(0, 0, 0), 0);
        Check.due("the number 22", on.point(0, 22, 0), 24);
        Check.due("the number 23", on.point(0, 23, 0), 99);
        Check.fails("the number 24", on, Check.INDEX, () -> on.point(0, 24, 0));
        Check.fails("one point more than 24", on, Check.STATE, () -> on.insert(0, 0, 0, 0, 5));
        on.simplify(0, 0);
        Check.due("all but two are removed", on.bake(0), 22);
        Check.fails("one point less than two", on, Check.STATE, () -> on.remove(0, 1));
        BrushStrokes single = new BrushStrokes();
        Check.type(single, "1,1");
        Check.fails("a text of one point", single, Check.ARGUMENT, () -> single.draw());
    }

    private static void numbersOfPoints() {
        int[][] wrong = {{-1, 0, 5}, {100, 0, 5}, {0, -1, 5}, {0, 100, 5}, {0, 0, 0}, {0, 0, 21}};
        BrushStrokes on = Check.sheet("0,99w1;99,0w20;0,0w20;99,99w1");
        int[][] right = {{0, 99, 1}, {99, 0, 20}, {0, 0, 20}, {99, 99, 1}};
        for (int k = 0; k < 4; k++) {
            for (int what = 0; what < 3; what++) {
                Check.due("point(0, " + k + ", " + what + ")", on.point(0, k, what), right[k][what]);
            }
        }
        for (int[] point : wrong) {
            Check.fails("insert", on, Check.ARGUMENT, () -> on.insert(0, 0, point[0], point[1], point[2]));
            Check.fails("change", on, Check.ARGUMENT, () -> on.change(0, 0, point[0], point[1], point[2]));
        }
        BrushStrokes drawn = new BrushStrokes();
        Check.draw(drawn, "0,99w1;99,0w20");
        Check.due("the least and the greatest", Check.strokeFace(drawn, 0), "2 2 0 0 14000 0 0 99 99 0 3 0 : 0 99 1 1 1 0 "
            + ": 99 0 20 1 1 0");
        for (String text : new String[] {"100,0;1,1", "0,100;1,1", "0,0w0;1,1", "0,0w21;1,1", "-1,0;1,1", "0,-1;1,1"}) {
            BrushStrokes typed = new BrushStrokes();
            Check.type(typed, text);
            Check.fails(text, typed, Check.ARGUMENT, () -> typed.draw());
        }
    }

    private static void samePlace() {
        BrushStrokes on = new BrushStrokes();
        on.stroke(7, 7, 7, 7);
        Check.due("stroke()", Check.strokeFace(on, 0), "2 2 0 0 0 0 0 0 0 0 3 0 : 7 7 5 1 1 0 : 7 7 5 1 1 0");
        Check.due("insert()", on.insert(0, 1, 7, 7, 5), 3);
        Check.due("draw()", Check.draw(on, "5,5;5,5;5,5;5,5;9,9"), 1);
        Check.due("change()", on.change(1, 4, 5, 5, 5), 909);
        on.set(0, 0);
        on.set(1, 100);
        for (int way = 0; way < 2; way++) {
            Check.due("they do not stray", on.simplify(1, way), 2);
            Check.due("and none is left", on.simplify(0, way), 2);
        }
        Check.due("no distance", on.distance(1, 2, 1, 3), 0);
        Check.due("the first of them is nearest", on.nearest(5, 5), 100);
        Check.due("no crossing", on.crossings(1), 0);
    }

    // ---- distances

    private static void distances() {
        new Section("### Distances")
            .says("The squared distance of a point P from the segment from A to B is: the square of the vector from A to P, if "
                + "the product t of the vectors from A to P and from A to B is 0 or less; otherwise the square of the vector "
                + "from B to P, if t is at least the square q of the vector from A to B; otherwise the fraction "
                + "(u * d - v * c) * (u * d - v * c) / q, where (u, v) is the vector from A to P and (c, d) is the vector "
                + "from A to B.", TermsSentencesTest::squaredDistances)
            .says("It is compared as a fraction, without rounding.", TermsSentencesTest::comparedAsFractions)
            .says("The distance in hundredths is the root of 10000 times the squared distance (where this product is divided by "
                + "q, rounded toward zero, if it is a fraction).", TermsSentencesTest::hundredths)
            .end();
    }

    private static void distance(String what, String aPointB, int want) {
        BrushStrokes on = Check.sheet(aPointB);
        Check.due(what + ", " + aPointB, on.distance(0, 1, 0, 2), want);
    }

    private static void squaredDistances() {
        // the fraction is 100 / 101 or 101 in the first six, where (c, d) is (10, 1) or (-10, -1)
        distance("t is -1", "10,10;10,9;20,11", 100);
        distance("t is 0", "10,10;9,20;20,11", 1004);
        distance("t is 1", "10,10;10,11;20,11", 99);
        distance("t is q - 1", "20,11;10,11;10,10", 99);
        distance("t is q", "10,10;19,21;20,11", 1004);
        distance("t is q + 1", "10,10;20,12;20,11", 100);
        distance("t is far below 0", "50,50;10,20;60,50", 5000);
        distance("t is far above q", "50,50;99,20;60,50", 4920);
        distance("P is at A", "10,10;10,10;20,11", 0);
        distance("P is at B", "10,10;20,11;20,11", 0);
        distance("P is on the segment", "10,10;20,12;30,14", 0);
        distance("P is on the line, before A", "20,12;10,10;30,14", 1019);
        distance("P is on the line, behind B", "10,10;30,14;20,12", 1019);
        distance("q is 0", "10,10;13,14;10,10", 500);
        distance("q is 0, and P is there too", "10,10;10,10;10,10", 0);
        distance("q is 1", "10,10;11,99;11,10", 8900);
        distance("the greatest fraction", "0,99;99,99;99,0", 7000);
        distance("the greatest fraction, on the other side", "0,99;0,0;99,0", 7000);
        distance("the greatest square", "0,0;99,99;0,0", 14000);
        distance("on one side", "0,10;3,14;10,10", 400);
        distance("on the other side", "0,10;3,6;10,10", 400);
        distance("a fraction", "0,0;60,0;99,99", 4242);
    }

    private static void comparedAsFractions() {
        // 42 and 43 times 42, 43 / 19405: both are 0 as whole numbers, and 30 in hundredths
        BrushStrokes on = Check.sheet("0,0;42,42;43,43;99,98");
        on.set(1, 0);
        on.set(0, 0);
        Check.due("in hundredths", on.distance(0, 1, 0, 3) * 100 + on.distance(0, 2, 0, 3), 3030);
        Check.due("a distance below 1 is more than 0", on.ifSimplified(0, 0, 1), 3);
        Check.due("the second is farther", on.simplify(0, 0), 3);
        Check.due("so it is kept, and not the first", on.strokeOf(0, 10), 0b1101);
        fractionAtBound("more than 9", "0,0;49,4;99,2", 300, 3, 3);
        fractionAtBound("9", "0,0;7,9;5,12", 300, 3, 2);
        fractionAtBound("less than 9", "0,0;33,4;99,3", 299, 3, 2);
        fractionAtBound("more than 1", "0,0;49,2;99,2", 100, 1, 3);
        fractionAtBound("less than 1", "0,0;99,0;99,1", 99, 1, 2);
        fractionAtBound("more than 2500", "0,0;35,59;99,22", 5000, 50, 3);
        fractionAtBound("less than 2500", "0,0;30,60;99,27", 4999, 50, 2);
    }

    private static void fractionAtBound(String what, String text, int hundredths, int bound, int kept) {
        BrushStrokes on = Check.sheet(text);
        on.set(1, 0);
        Check.due(what + " in hundredths", on.distance(0, 1, 0, 2), hundredths);
        for (int way = 0; way < 2; way++) {
            Check.due(what + ", way " + way, on.ifSimplified(0, bound, way), kept);
        }
    }

    private static void hundredths() {
        BrushStrokes on = Check.sheet("0,0;5,1;3,4;0,8;1,14");
        Check.due("10000 * 289 / 25", on.distance(0, 1, 0, 2), 340);
        Check.due("10000 * 64 / 197 is 3248.7", on.distance(0, 3, 0, 4), 56);
        Check.due("10000 * 26", on.distance(0, 1, 0, 0), 509);
        Check.due("10000 * 10 * 10 is no fraction", Check.sheet("0,0;0,10;0,0").distance(0, 1, 0, 2), 1000);
    }

    // ---- fixed points

    private static void fixedPoints() {
        new Section("### Fixed points")
            .says("The first and the last point of a stroke are its ends.", TermsSentencesTest::ends)
            .explains("For another point, let (a, b) be the vector to it from the point before, (c, d) the vector from it to the "
                + "next point, p their product, and q the square of the one times the square of the other.")
            .says("It is a corner if p is negative, or if q is not 0 and p * p * 10000 is less than the square of the setting 1 "
                + "times q.", TermsSentencesTest::corners)
            .says("It is a waist if its width plus the setting 2 is at most the width of the point before, and also at most the "
                + "width of the next point.", TermsSentencesTest::waists)
            .says("Ends, corners and waists are fixed.", TermsSentencesTest::fixed)
            .end();
    }

    private static String kinds(BrushStrokes on) {
        StringBuilder kinds = new StringBuilder();
        for (int k = 0; k < on.strokeOf(0, 0); k++) {
            kinds.append(on.point(0, k, 4));
        }
        return kinds.toString();
    }

    private static void ends() {
        BrushStrokes on = new BrushStrokes();
        on.stroke(10, 0, 20, 0);
        Check.due("of two points both", kinds(on), "11");
        on.insert(0, 2, 30, 0, 5);
        Check.due("a point came behind the last", kinds(on), "101");
        on.insert(0, 0, 0, 0, 5);
        Check.due("a point came before the first", kinds(on), "1001");
        on.remove(0, 3);
        Check.due("the last went", kinds(on), "101");
        on.remove(0, 0);
        Check.due("the first went", kinds(on), "11");
        Check.due("neither sharp nor thin ones", kinds(Check.sheet("10,10w1;50,10w20;40,10w20;50,10w1")), "1221");
        Check.due("of a loop too", kinds(Check.sheet("0,0;20,0;20,20;0,0")), "1221");
    }

    private static void kind(String what, String text, int corner, int want) {
        BrushStrokes on = Check.sheet(text);
        on.set(1, corner);
        Check.due(what + " with " + corner, on.point(0, 1, 4), want);
    }

    private static void corners() {
        kind("p is -1", "10,10;11,10;10,15", 0, 2);
        kind("p is 0", "10,10;11,10;11,15", 0, 0);
        kind("p is 0", "10,10;11,10;11,15", 1, 2);
        kind("p is 1", "10,10;11,10;12,99", 0, 0);
        kind("p is 1", "10,10;11,10;12,99", 1, 0);
        kind("p is 1", "10,10;11,10;12,99", 2, 2);
        kind("no way in", "10,10;10,10;11,15", 100, 0);
        kind("no way out", "10,10;11,15;11,15", 100, 0);
        kind("neither", "10,10;10,10;10,10", 100, 0);
        kind("p * p * 10000 is 60 * 60 * q", "0,0;20,0;50,40", 60, 0);
        kind("p * p * 10000 is 60 * 60 * q", "0,0;20,0;50,40", 61, 2);
        kind("p * p * 10000 is a little less than 53 * 53 * q", "0,0;20,0;25,8", 53, 2);
        kind("p * p * 10000 is a little more than 29 * 29 * q", "0,0;20,0;30,33", 29, 0);
        kind("straight on", "0,0;10,20;20,40", 100, 0);
        kind("straight on, and far", "0,0;49,49;99,99", 100, 0);
        kind("hardly bent", "0,0;50,0;99,1", 100, 2);
        kind("hardly bent", "0,0;50,0;99,1", 99, 0);
        kind("straight back", "0,0;99,99;0,0", 0, 2);
        kind("straight back", "0,0;99,99;0,0", 100, 2);
    }

    private static void waist(String what, String text, int waist, int want) {
        BrushStrokes on = Check.sheet(text);
        on.set(2, waist);
        Check.due(what + " with " + waist, on.point(0, 1, 4), want);
    }

    private static void waists() {
        waist("as thin as it must be", "0,0w9;10,0w5;20,0w9", 4, 4);
        waist("1 too wide", "0,0w9;10,0w6;20,0w9", 4, 0);
        waist("the one before is 1 too thin", "0,0w8;10,0w5;20,0w9", 4, 0);
        waist("the next one is 1 too thin", "0,0w9;10,0w5;20,0w8", 4, 0);
        waist("the least setting", "0,0w6;10,0w5;20,0w6", 1, 4);
        waist("the least setting", "0,0w5;10,0w5;20,0w5", 1, 0);
        waist("1 less than the greatest setting", "0,0w20;10,0w1;20,0w20", 19, 4);
        waist("the greatest setting", "0,0w20;10,0w1;20,0w20", 20, 0);
        waist("a corner too", "0,0w9;10,0w5;0,0w9", 4, 6);
    }

    private static void fixed() {
        BrushStrokes on = Check.sheet("0,0w9;10,0w9;20,0w5;30,0w9;30,10w9;30,20w9;30,30w9");
        on.set(0, 50);
        Check.due("an end, a waist, a corner, an end", kinds(on), "1042001");
        for (int way = 0; way < 2; way++) {
            Check.due("these stay", on.simplify(0, way), 4);
            Check.due("and no others", on.strokeOf(0, 10), 0b1001101);
        }
    }

    // ---- simplifying

    private static void simplifying() {
        new Section("### Simplifying")
            .says("A simplified stroke consists of some of the points of the stroke, in their order: those that are kept.",
                TermsSentencesTest::someOfThePoints)
            .says("Fixed points are always kept by simplify().", TermsSentencesTest::fixedAreKept)
            .says("At first, and whenever points of a stroke are added, removed or changed (also to what they were), all its "
                + "points are kept.", TermsSentencesTest::allAreKept)
            .says("Each point that is not kept lies between two points that are kept, the nearest ones before and behind it; its "
                + "stray is its distance from the segment between these.", TermsSentencesTest::strays)
            .says("A point that is kept has the stray 0.", TermsSentencesTest::keptDoNotStray)
            .says("The way 0 splits: between two neighbouring fixed points, the point whose squared distance from the segment "
                + "between them is greatest is kept if this is greater than the square of the setting 0 (of several such "
                + "points the first one), and then the same is done between the one point and the kept one, and between the "
                + "kept one and the other point.", TermsSentencesTest::splits)
            .says("If it is not greater, no point between them is kept.", TermsSentencesTest::notGreater)
            .says("The way 1 keeps as few points as possible so that the squared distance of each point that is not kept from "
                + "the segment between the kept points before and behind it is at most the square of the setting 0; of "
                + "several sets of kept points the one that is the least number as a bit mask (bit k for the point k).",
                TermsSentencesTest::fewest)
            .end();
    }

    private static void someOfThePoints() {
        BrushStrokes on = Check.sheet("1,0w1;11,1w2;21,0w3;31,20w4;41,20w5;51,21w6");
        Check.due("four of six", on.simplify(0, 0), 4);
        Check.due("all six are there", on.strokeOf(0, 0), 6);
        Check.due("these are kept", on.strokeOf(0, 10), 0b101101);
        on.bake(0);
        String places = "";
        for (int k = 0; k < 4; k++) {
            places += on.point(0, k, 0) + "w" + on.point(0, k, 2) + " ";
        }
        Check.due("in their order", places, "1w1 21w3 31w4 51w6 ");
    }

    private static void fixedAreKept() {
        BrushStrokes two = new BrushStrokes();
        two.stroke(5, 5, 5, 5);
        // backwards on a line, so that no point strays from the segment between the ends
        BrushStrokes corners = Check.sheet("0,0;20,0;10,0;30,0");
        BrushStrokes waists = Check.sheet("0,0w9;10,0w5;20,0w9;30,0w5;40,0w9");
        waists.set(0, 50);
        for (int way = 0; way < 2; way++) {
            Check.due("only ends", two.simplify(0, way), 2);
            for (int bound : new int[] {0, 50}) {
                corners.set(0, bound);
                Check.due("corners, with the bound " + bound, corners.simplify(0, way), 4);
            }
            waists.simplify(0, way);
            Check.due("waists", waists.strokeOf(0, 10), 0b11011);
        }
        waists.set(2, 5);
        Check.due("waists no more", waists.simplify(0, 0), 2);
        waists.set(2, 4);
        Check.due("waists again", waists.simplify(0, 0), 4);
    }

    private static BrushStrokes simplifiedLine() {
        BrushStrokes on = Check.sheet("0,0;10,0;20,0;30,0");
        on.simplify(0, 0);
        return on;
    }

    private static void allAreKept() {
        BrushStrokes on = new BrushStrokes();
        on.stroke(0, 0, 10, 0);
        Check.due("a new stroke", on.strokeOf(0, 10), 0b11);
        Check.draw(on, "0,0;10,0;20,0");
        Check.due("a drawn stroke", on.strokeOf(1, 10), 0b111);
        for (int index = 0; index <= 4; index++) {
            BrushStrokes added = simplifiedLine();
            Check.due("two are kept", added.strokeOf(0, 10), 0b1001);
            added.insert(0, index, 5, 0, 5);
            Check.due("added as the point " + index, added.strokeOf(0, 10), 0b11111);
        }
        for (int index = 0; index < 4; index++) {
            BrushStrokes removed = simplifiedLine();
            removed.remove(0, index);
            Check.due("removed the point " + index, removed.strokeOf(0, 10), 0b111);
            BrushStrokes changed = simplifiedLine();
            changed.change(0, index, 50, 50, 9);
            Check.due("changed the point " + index, changed.strokeOf(0, 10), 0b1111);
            BrushStrokes same = simplifiedLine();
            same.change(0, index, 10 * index, 0, 5);
            Check.due("changed the point " + index + " to what it was", same.strokeOf(0, 10), 0b1111);
        }
        BrushStrokes baked = simplifiedLine();
        baked.bake(0);
        Check.due("removed by bake()", baked.strokeOf(0, 10), 0b11);
        BrushStrokes other = simplifiedLine();
        other.stroke(0, 0, 9, 0);
        other.insert(1, 1, 5, 0, 5);
        other.change(1, 0, 1, 1, 5);
        other.remove(1, 0);
        Check.due("points of another stroke", other.strokeOf(0, 10), 0b1001);
        other.stroke(0, 0, 9, 9);
        other.erase(1);
        Check.due("a stroke behind it goes", other.strokeOf(0, 10), 0b1001);
        Check.draw(other, "0,0;10,0;20,0");
        other.simplify(2, 0);
        other.erase(1);
        Check.due("a stroke before it goes", other.strokeOf(1, 10), 0b101);
    }

    private static void strays() {
        BrushStrokes on = Check.sheet("0,0w9;10,2w9;20,10w5;30,12w9;35,13w9;40,10w9");
        on.set(1, 0);
        on.set(0, 50);
        for (int way = 0; way < 2; way++) {
            Check.due("the waist stays", on.simplify(0, way), 3);
            Check.due("from the ones beside it: root of 3600 / 500", on.point(0, 1, 5), 268);
            Check.due("from the nearest ones that are kept", on.point(0, 3, 5), 200);
            Check.due("from the nearest ones that are kept", on.point(0, 4, 5), 300);
        }
        // before the segment, at its beginning, and beside it
        BrushStrokes hook = Check.sheet("40,0;20,0;20,20;40,20;60,20");
        hook.set(1, 0);
        hook.set(0, 50);
        hook.simplify(0, 0);
        Check.due("two are kept", hook.strokeOf(0, 10), 0b10001);
        hook.set(0, 0);
        Check.due("before the segment", hook.point(0, 1, 5), 2000);
        Check.due("at its beginning", hook.point(0, 2, 5), 2828);
        Check.due("beside it", hook.point(0, 3, 5), 1414);
    }

    private static void keptDoNotStray() {
        BrushStrokes on = Check.sheet("0,0;10,50;20,0;30,0;40,0");
        for (int k = 0; k < 5; k++) {
            Check.due("all are kept, the point " + k, on.point(0, k, 5), 0);
        }
        on.simplify(0, 1);
        Check.due("one is not kept", on.strokeOf(0, 10), 0b10111);
        for (int k = 0; k < 5; k++) {
            Check.due("the point " + k, on.point(0, k, 5), 0);
        }
        BrushStrokes far = Check.sheet("0,0w20;50,50w1;99,0w20;99,0w20");
        far.simplify(0, 0);
        Check.due("a fixed one that is far away", far.point(0, 1, 5), 0);
    }

    private static int split(String text, int bound, int way) {
        BrushStrokes on = Check.sheet(text);
        on.set(1, 0);
        on.set(0, bound);
        on.simplify(0, way);
        return on.strokeOf(0, 10);
    }

    private static void splits() {
        Check.due("farther than the bound", split("0,0;10,3;20,0", 2, 0), 0b111);
        Check.due("as far as the bound", split("0,0;10,3;20,0", 3, 0), 0b101);
        Check.due("more than 9, 300 in hundredths", split("0,0;49,4;99,2", 3, 0), 0b111);
        Check.due("the farthest, not the first", split("0,0;10,3;20,6;30,3;40,0", 5, 0), 0b10101);
        Check.due("of two as far the first", split("0,0;10,3;20,0;30,3;40,0", 2, 0), 0b10011);
        Check.due("of three as far the first", split("0,0;10,3;20,3;30,3;40,0", 2, 0), 0b10011);
        Check.due("then on both sides of the kept one", split("0,0;10,20;20,30;30,20;40,0", 2, 0), 0b11111);
        Check.due("then before it alone", split("0,0;10,14;20,20;30,10;40,0", 2, 0), 0b10111);
        Check.due("then behind it alone", split("0,0;10,10;20,20;30,14;40,0", 2, 0), 0b11101);
        // between the ends the second is nearer than the bound, but not between the first and the last
        Check.due("from the new segment", split("0,0;10,8;30,3;40,0", 3, 0), 0b1011);
        Check.due("from the new segment", split("0,0;10,8;30,0;40,0", 2, 0), 0b1111);
        BrushStrokes two = new BrushStrokes();
        two.stroke(0, 0, 9, 9);
        two.set(0, 0);
        Check.due("nothing between", two.simplify(0, 0), 2);
        // the waist is between: the point 1 is 2 from its segment, but 7.07 from the one between the ends
        BrushStrokes fixed = Check.sheet("0,0w9;5,10w9;10,20w5;40,20w9");
        fixed.set(1, 0);
        fixed.set(0, 0);
        fixed.simplify(0, 0);
        Check.due("between neighbouring fixed points", fixed.strokeOf(0, 10), 0b1101);
        Check.due("all 24, again and again", Integer.bitCount(zigzag(0)), 24);
    }

    /** The kept points of 24 that go up and down, with the bound 0. */
    private static int zigzag(int way) {
        StringBuilder text = new StringBuilder("0,0");
        for (int k = 1; k < 24; k++) {
            text.append(';').append(4 * k).append(',').append(k % 2);
        }
        return split(text.toString(), 0, way);
    }

    private static void notGreater() {
        Check.due("as far as the bound", split("0,0;10,3;20,3;30,3;40,0", 3, 0), 0b10001);
        Check.due("on the segment, with the bound 0", split("0,0;10,0;20,0;30,0", 0, 0), 0b1001);
        Check.due("at one place, with the bound 0", split("5,5;5,5;5,5", 0, 0), 0b101);
        BrushStrokes on = Check.sheet("0,0;10,3;20,0;30,3;40,0");
        on.set(1, 0);
        on.set(0, 2);
        on.simplify(0, 0);
        Check.due("one was kept", on.strokeOf(0, 10), 0b10011);
        on.set(0, 3);
        on.simplify(0, 0);
        Check.due("it goes", on.strokeOf(0, 10), 0b10001);
        Check.due("on one side of the kept one", split("0,0;10,10;20,20;30,14;40,0", 2, 0), 0b11101);
        Check.due("on neither side of the kept one", split("0,0;10,10;20,20;30,14;40,0", 3, 0), 0b10101);
    }

    private static void fewest() {
        Check.due("as far as the bound", split("0,0;10,3;20,3;30,3;40,0", 3, 1), 0b10001);
        Check.due("farther than the bound", split("0,0;10,3;20,0", 2, 1), 0b111);
        Check.due("more than 9, 300 in hundredths", split("0,0;49,4;99,2", 3, 1), 0b111);
        Check.due("less than 9, 299 in hundredths", split("0,0;33,4;99,3", 3, 1), 0b101);
        Check.due("on the segment, with the bound 0", split("0,0;10,0;20,0;30,0", 0, 1), 0b1001);
        Check.due("at one place, with the bound 0", split("5,5;5,5;5,5", 0, 1), 0b101);
        Check.due("the least of several sets", split("0,0;10,6;20,7;30,6;40,0", 4, 1), 0b10011);
        Check.due("splitting keeps more", split("0,0;10,0;20,3;30,3;40,0", 1, 0), 0b11111);
        Check.due("as few as possible", split("0,0;10,0;20,3;30,3;40,0", 1, 1), 0b11001);
        Check.due("all 24", Integer.bitCount(zigzag(1)), 24);
        BrushStrokes fixed = Check.sheet("0,0w9;10,0w9;20,0w5;30,0w9;40,0w9");
        fixed.simplify(0, 1);
        Check.due("over no fixed point", fixed.strokeOf(0, 10), 0b10101);
        BrushStrokes two = new BrushStrokes();
        two.stroke(0, 0, 9, 9);
        Check.due("nothing between", two.simplify(0, 1), 2);
    }

    // ---- settings

    private static void settings() {
        new Section("### Settings")
            .says(NUMBERS_0_TO_3, TermsSentencesTest::fourSettings)
            .says("(A change of a setting changes which points are fixed at once, but not which points are kept.)",
                TermsSentencesTest::changedSettings)
            .end();
    }

    private static void fourSettings() {
        int[] first = {3, 50, 4, 20};
        int[] least = {0, 0, 1, 0};
        int[] greatest = {50, 100, 20, 100};
        for (int k = 0; k < 4; k++) {
            int number = k;
            Check.due("at first, the setting " + k, new BrushStrokes().setting(k), first[k]);
            Check.range("the setting " + k, BrushStrokes::new, least[k], greatest[k], Check.ARGUMENT,
                (on, value) -> on.set(number, value) * 0 + on.setting(number));
        }
        BrushStrokes on = new BrushStrokes();
        Check.fails("a setting 4", on, Check.INDEX, () -> on.setting(4));
        Check.fails("a setting -1", on, Check.INDEX, () -> on.setting(-1));
        BrushStrokes bound = Check.sheet("0,0;10,4;20,0");
        bound.set(1, 0);
        Check.due("the bound is 3 at first", bound.simplify(0, 0), 3);
        bound.set(0, 4);
        Check.due("the bound", bound.simplify(0, 0), 2);
        BrushStrokes first50 = Check.sheet("0,0;10,0;15,8;20,0");
        Check.due("the corner is 50 at first", first50.point(0, 1, 4), 0);
        first50.change(0, 2, 15, 9, 5);
        Check.due("the corner is 50 at first", first50.point(0, 1, 4), 2);
        BrushStrokes first4 = Check.sheet("0,0w9;10,0w5;20,0w9;30,0w6;40,0w9");
        Check.due("the waist is 4 at first", kinds(first4), "14001");
        BrushStrokes first20 = Check.sheet("0,0;10,0;11,4;12,9");
        Check.due("the join is 20 at first", first20.strokeOf(0, 9), 0);
        first20.change(0, 2, 11, 5, 5);
        Check.due("the join is 20 at first", first20.strokeOf(0, 9), 1);
    }

    private static void changedSettings() {
        BrushStrokes on = Check.sheet("0,0w9;10,0w5;20,0w9;20,10w9;20,20w9");
        Check.due("a waist and a corner", kinds(on), "14201");
        on.simplify(0, 0);
        Check.due("these are kept", on.strokeOf(0, 10), 0b10111);
        on.set(2, 5);
        Check.due("the waist at once", kinds(on), "10201");
        Check.due("but it is still kept", on.strokeOf(0, 10), 0b10111);
        on.set(1, 0);
        Check.due("the corner at once", kinds(on), "10001");
        Check.due("but it is still kept", on.strokeOf(0, 10), 0b10111);
        on.set(0, 50);
        on.simplify(0, 1);
        Check.due("two are kept", on.strokeOf(0, 10), 0b10001);
        int stray = on.point(0, 2, 5);
        on.set(1, 100);
        on.set(2, 1);
        on.set(0, 0);
        Check.due("fixed at once", kinds(on), "14201");
        Check.due("but not kept", on.strokeOf(0, 10), 0b10001);
        Check.due("its stray is as it was", on.point(0, 2, 5), stray);
    }

    // ---- stroke text

    private static void strokeText() {
        new Section("### Stroke text")
            .says("The buffer holds at most 70 characters.", TermsSentencesTest::seventy)
            .says("It is empty at first.", TermsSentencesTest::emptyAtFirst)
            .says("A stroke text is 2 to 24 points with \";\" between them; a point is an x, \",\", a y, and then perhaps \"w\" and "
                + "a width (otherwise its width is 5).", TermsSentencesTest::strokeTexts)
            .says("Numbers have no leading zeros.", TermsSentencesTest::leadingZeros)
            .says("The first error of the buffer is the index of the first character that no stroke text can have after the "
                + "characters before it.", TermsSentencesTest::firstErrors)
            .end();
    }

    private static void seventy() {
        BrushStrokes on = new BrushStrokes();
        Check.type(on, SEVENTEEN);
        Check.due("67 characters", on.append(';'), 68);
        Check.due("69", on.append('1'), 69);
        Check.due("70", on.append(','), 70);
        Check.fails("71", on, Check.STATE, () -> on.append('1'));
        Check.due("70 are held", on.clearBuffer(), 70);
        Check.due("room again", on.append('1'), 1);
    }

    private static void emptyAtFirst() {
        BrushStrokes on = new BrushStrokes();
        Check.due("its length", on.count(6), 0);
        Check.due("no error", on.firstError(), 0);
        Check.fails("no stroke text", on, Check.ARGUMENT, () -> on.draw());
        Check.due("nothing to clear", on.clearBuffer(), 0);
    }

    private static void strokeTexts() {
        complete("0,0;0,0", "0,0w5 0,0w5 ");
        complete("1,2w3;44,5w6", "1,2w3 44,5w6 ");
        complete("99,99w20;99,99", "99,99w20 99,99w5 ");
        complete("10,0;0,10w10", "10,0w5 0,10w10 ");
        complete("1,1w1;2,2w19;3,3", "1,1w1 2,2w19 3,3w5 ");
        BrushStrokes on = new BrushStrokes();
        Check.due("17 points", Check.draw(on, SEVENTEEN), 0);
        Check.due("17 points", on.strokeOf(0, 0), 17);
        for (String text : new String[] {"", "0,0", "0,0;", "0,0;0", "0,0;0,", "0,0;0,0;", "0,0;0,0w", "0;0", "0,0,0,0", "0,0_0,0",
            "0,0w;0,0", "w5;0,0", "0w5;0,0", "0,0w5w5;0,0", "0,0;0,0w5;", ",0;0,0", "0,;0,0", "0,0;;0,0", ";0,0;0,0", "0,0W5;0,0",
            "0.0;0.0", "0,0:0,0", "+0,0;0,0", "0,0;0,0.", "0,0;0,0,"}) {
            incomplete(text);
        }
    }

    private static void complete(String text, String want) {
        BrushStrokes on = new BrushStrokes();
        Check.type(on, text);
        Check.due("no error in " + text, on.firstError(), text.length());
        Check.due(text, on.draw(), 0);
        String points = "";
        for (int k = 0; k < on.strokeOf(0, 0); k++) {
            points += on.point(0, k, 0) + "," + on.point(0, k, 1) + "w" + on.point(0, k, 2) + " ";
        }
        Check.due(text, points, want);
    }

    private static void incomplete(String text) {
        BrushStrokes on = new BrushStrokes();
        Check.type(on, text);
        Check.fails("no stroke text: " + text, on, Check.ARGUMENT, () -> on.draw());
    }

    private static void error(String text, int want) {
        BrushStrokes on = new BrushStrokes();
        Check.type(on, text);
        Check.due("the first error of " + text, on.firstError(), want);
    }

    private static void leadingZeros() {
        complete("0,0;10,20w10", "0,0w5 10,20w10 ");
        error("00", 1);
        error("01,1;2,2", 1);
        error("1,00", 3);
        error("1,01;2,2", 3);
        error("1,1w01;2,2", 4);
        error("1,1w00", 4);
        error("1,1;00", 5);
        error("1,1;2,09", 7);
        incomplete("01,1;2,2");
        incomplete("1,1;2,02");
        incomplete("1,1;2,2w05");
    }

    private static void firstErrors() {
        for (int code = 33; code <= 126; code++) {
            String sign = "" + (char) code;
            boolean digit = code >= '0' && code <= '9';
            error(sign, digit ? 1 : 0);
            error("1" + sign, digit || code == ',' ? 2 : 1);
            error("0" + sign, code == ',' ? 2 : 1);
            error("99" + sign, code == ',' ? 3 : 2);
            error("1," + sign, digit ? 3 : 2);
            error("1,1" + sign, digit || code == 'w' || code == ';' ? 4 : 3);
            error("1,0" + sign, code == 'w' || code == ';' ? 4 : 3);
            error("1,99" + sign, code == 'w' || code == ';' ? 5 : 4);
            error("1,1w" + sign, digit && code != '0' ? 5 : 4);
            error("1,1w1" + sign, digit || code == ';' ? 6 : 5);
            error("1,1w2" + sign, code == '0' || code == ';' ? 6 : 5);
            error("1,1w3" + sign, code == ';' ? 6 : 5);
            error("1,1w20" + sign, code == ';' ? 7 : 6);
            error("1,1;" + sign, digit ? 5 : 4);
            error("1,1;2,2;" + sign, digit ? 9 : 8);
        }
        error("1,1;2,2", 7);
        error("1,1;x,2;;", 4);
        error("x", 0);
        error(SEVENTEEN + ";0,", 70);
        error(SEVENTEEN + ";0w", 69);
    }

    // ---- undo and snapshots

    private static void undoAndSnapshots() {
        new Section("### Undo and snapshots")
            .says("The state consists of everything except the buffer, the saved states and the snapshots.",
                TermsSentencesTest::theState)
            .says("Each method that is marked \"Undoable\" saves the state from before the call if it does not throw an "
                + "exception, even if nothing changes.", TermsSentencesTest::saves)
            .says("At most 6 states are saved; when one more is saved, the oldest one is dropped.", TermsSentencesTest::sixStates)
            .says("There are two snapshot slots, which are empty at first.", TermsSentencesTest::twoSlots)
            .end();
    }

    private static void changeEverything(BrushStrokes on) {
        on.set(0, 1);
        on.simplify(0, 1);
        on.set(3, 99);
        on.change(0, 0, 50, 50, 7);
        on.erase(1);
    }

    private static void theState() {
        BrushStrokes on = Check.sheet("0,0;10,0;20,0");
        on.stroke(9, 9, 8, 8);
        on.simplify(0, 0);
        String before = Check.stateFace(on);
        on.keep(0);
        Check.type(on, "1,1");
        changeEverything(on);
        Check.due("goBack()", on.goBack(0), 2);
        Check.due("all of the state is back", Check.stateFace(on), before);
        Check.due("the buffer is as it was", on.count(6), 3);
        Check.due("the saved states are not taken back", on.count(5), 6);
        on.undo();
        on.keep(1);
        String changed = Check.stateFace(on);
        for (int k = 0; k < 5; k++) {
            Check.type(on, "w");
            on.undo();
        }
        Check.due("all of the state is undone", Check.stateFace(on), before);
        Check.due("the buffer is as it was", on.count(6), 8);
        Check.due("the first error is the same", on.firstError(), 4);
        on.goBack(1);
        Check.due("the snapshots are not undone", Check.stateFace(on), changed);
    }

    private static void saves() {
        BrushStrokes on = simplifiedLine();
        on.keep(0);
        for (int k = 0; k < 6; k++) {
            on.undo();
        }
        on.goBack(0);
        on.undo();
        on.goBack(0);
        Check.undoable("change() to what it was", on, () -> on.change(0, 0, 0, 0, 5));
        Check.undoable("simplify() as it was", on, () -> on.simplify(0, 0));
        Check.undoable("set() to what it was", on, () -> on.set(0, 3));
        Check.undoable("goBack() to what is", on, () -> on.goBack(0));
        on.bake(0);
        Check.undoable("bake() of all kept", on, () -> on.bake(0));
        BrushStrokes two = new BrushStrokes();
        two.stroke(0, 0, 9, 9);
        Check.fails("stroke()", two, Check.ARGUMENT, () -> two.stroke(0, 0, 0, 100));
        Check.fails("draw()", two, Check.ARGUMENT, () -> two.draw());
        Check.fails("insert()", two, Check.INDEX, () -> two.insert(0, 3, 0, 0, 5));
        Check.fails("change()", two, Check.ARGUMENT, () -> two.change(0, 0, 0, 0, 0));
        Check.fails("remove()", two, Check.STATE, () -> two.remove(0, 0));
        Check.fails("erase()", two, Check.INDEX, () -> two.erase(1));
        Check.fails("simplify()", two, Check.ARGUMENT, () -> two.simplify(0, 2));
        Check.fails("bake()", two, Check.INDEX, () -> two.bake(1));
        Check.fails("set()", two, Check.INDEX, () -> two.set(4, 0));
        Check.fails("goBack()", two, Check.STATE, () -> two.goBack(1));
        Check.due("none of these saved a state", two.count(5), 1);
    }

    private static void sixStates() {
        BrushStrokes on = new BrushStrokes();
        for (int call = 1; call <= 9; call++) {
            on.set(0, 10 + call);
            Check.due("saved by " + call + " calls", on.count(5), Math.min(call, 6));
        }
        Check.due("the state before the last call", on.undo() * 100 + on.setting(0), 518);
        Check.due("the one before", on.undo() * 100 + on.setting(0), 417);
        on.set(0, 30);
        Check.due("one more", on.count(5), 5);
        on.set(0, 31);
        on.set(0, 32);
        int[] want = {31, 30, 17, 16, 15, 14};
        for (int k = 0; k < 6; k++) {
            Check.due("saved " + (5 - k), on.undo() * 100 + on.setting(0), (5 - k) * 100 + want[k]);
        }
        Check.fails("the older ones are dropped", on, Check.STATE, () -> on.undo());
    }

    private static void twoSlots() {
        BrushStrokes on = new BrushStrokes();
        Check.fails("the slot 0 is empty", on, Check.STATE, () -> on.goBack(0));
        Check.fails("the slot 1 is empty", on, Check.STATE, () -> on.goBack(1));
        Check.fails("no slot 2", on, Check.ARGUMENT, () -> on.goBack(2));
        Check.fails("no slot -1", on, Check.ARGUMENT, () -> on.goBack(-1));
        Check.fails("no slot 2", on, Check.ARGUMENT, () -> on.keep(2));
        Check.fails("no slot -1", on, Check.ARGUMENT, () -> on.keep(-1));
        on.keep(0);
        Check.fails("the slot 1 is still empty", on, Check.STATE, () -> on.goBack(1));
        on.stroke(0, 0, 1, 1);
        on.keep(1);
        Check.due("each its own", on.goBack(0) * 10 + on.goBack(1), 1);
    }

    // ---- exceptions

    private static void exceptions() {
        new Section("### Exceptions")
            .says("A call that throws an exception changes nothing.", TermsSentencesTest::changesNothing)
            .says("If more than one exception applies to a call, the one that its throws clause lists first is thrown.",
                TermsSentencesTest::firstListed)
            .says("The constants: `NONE = -1`: There is no such number.", TermsSentencesTest::none)
            .explains("Ahead of the calls `stroke`, `draw`, `insert`, `change`, `remove`, `erase`, `simplify`, `bake`, `set` the "
                + "interface says: ---- strokes and points.")
            .explains("Ahead of the calls `append`, `clearBuffer`, `firstError` the interface says: ---- stroke text.")
            .explains("Ahead of the calls `undo`, `keep`, `goBack` the interface says: ---- undo and snapshots.")
            .explains("Ahead of the calls `point`, `strokeOf`, `distance`, `crossings`, `count`, `setting`, `nearest` the "
                + "interface says: ---- queries; nothing changes.")
            .explains("Ahead of the calls `ifSimplified`, `leastBound`, `share` the interface says: ---- what would be; nothing "
                + "changes.")
            .end();
    }

    /** Four strokes, one of them with 24 points, six saved states, a snapshot, a full buffer. */
    private static BrushStrokes fullSheet() {
        BrushStrokes on = twentyFour();
        on.stroke(1, 2, 3, 4);
        on.keep(0);
        on.stroke(5, 6, 7, 8);
        Check.draw(on, "9,9;10,9;11,9");
        on.simplify(0, 0);
        on.simplify(3, 1);
        on.set(1, 44);
        on.set(2, 7);
        Check.type(on, SEVENTEEN + ";0,");
        return on;
    }

    private static void changesNothing() {
        BrushStrokes on = fullSheet();
        BrushStrokes untouched = fullSheet();
        refusedCalls(on);
        for (int k = 0; k <= 6; k++) {
            Check.due("saved state " + k, Check.face(on), Check.face(untouched));
            if (k < 6) {
                on.undo();
                untouched.undo();
            }
        }
        Check.fails("undo()", on, Check.STATE, () -> on.undo());
        on.goBack(0);
        untouched.goBack(0);
        Check.due("the snapshot", Check.face(on), Check.face(untouched));
        Check.fails("the other slot is empty", on, Check.STATE, () -> on.goBack(1));
        Check.fails("the buffer is full", on, Check.STATE, () -> on.append('5'));
        on.clearBuffer();
        Check.type(on, "1,1;2,2;");
        Check.fails("draw()", on, Check.ARGUMENT, () -> on.draw());
        on.append('3');
        on.append(',');
        Check.fails("append()", on, Check.ARGUMENT, () -> on.append(' '));
        on.append('4');
        Check.due("what the buffer tells", on.draw() * 10 + on.strokeOf(2, 0), 23);
    }

    private static void refusedCalls(BrushStrokes on) {
        Check.fails("stroke()", on, Check.ARGUMENT, () -> on.stroke(0, 0, 0, 100));
        Check.fails("stroke()", on, Check.STATE, () -> on.stroke(0, 0, 0, 0));
        Check.fails("draw()", on, Check.ARGUMENT, () -> on.draw());
        Check.fails("insert()", on, Check.INDEX, () -> on.insert(4, 0, 0, 0, 5));
        Check.fails("insert()", on, Check.INDEX, () -> on.insert(1, 3, 0, 0, 5));
        Check.fails("insert()", on, Check.ARGUMENT, () -> on.insert(1, 1, 0, 0, 21));
        Check.fails("insert()", on, Check.STATE, () -> on.insert(0, 1, 0, 0, 5));
        Check.fails("change()", on, Check.INDEX, () -> on.change(1, 2, 0, 0, 5));
        Check.fails("change()", on, Check.ARGUMENT, () -> on.change(0, 0, 0, 0, 21));
        Check.fails("remove()", on, Check.INDEX, () -> on.remove(0, 24));
        Check.fails("remove()", on, Check.STATE, () -> on.remove(1, 1));
        Check.fails("erase()", on, Check.INDEX, () -> on.erase(4));
        Check.fails("simplify()", on, Check.INDEX, () -> on.simplify(4, 0));
        Check.fails("simplify()", on, Check.ARGUMENT, () -> on.simplify(3, 2));
        Check.fails("bake()", on, Check.INDEX, () -> on.bake(4));
        Check.fails("set()", on, Check.INDEX, () -> on.set(4, 1));
        Check.fails("set()", on, Check.ARGUMENT, () -> on.set(0, 51));
        Check.fails("append()", on, Check.ARGUMENT, () -> on.append(32));
        Check.fails("append()", on, Check.STATE, () -> on.append('1'));
        Check.fails("keep()", on, Check.ARGUMENT, () -> on.keep(2));
        Check.fails("goBack()", on, Check.ARGUMENT, () -> on.goBack(2));
        Check.fails("goBack()", on, Check.STATE, () -> on.goBack(1));
        Check.fails("point()", on, Check.INDEX, () -> on.point(1, 2, 0));
        Check.fails("point()", on, Check.ARGUMENT, () -> on.point(0, 0, 6));
        Check.fails("strokeOf()", on, Check.INDEX, () -> on.strokeOf(4, 0));
        Check.fails("strokeOf()", on, Check.ARGUMENT, () -> on.strokeOf(0, 11));
        Check.fails("distance()", on, Check.INDEX, () -> on.distance(1, 0, 1, 2));
        Check.fails("crossings()", on, Check.INDEX, () -> on.crossings(4));
        Check.fails("count()", on, Check.ARGUMENT, () -> on.count(7));
        Check.fails("setting()", on, Check.INDEX, () -> on.setting(4));
        Check.fails("nearest()", on, Check.ARGUMENT, () -> on.nearest(100, 0));
        Check.fails("ifSimplified()", on, Check.INDEX, () -> on.ifSimplified(4, 0, 0));
        Check.fails("ifSimplified()", on, Check.ARGUMENT, () -> on.ifSimplified(0, 51, 0));
        Check.fails("leastBound()", on, Check.INDEX, () -> on.leastBound(4, 2, 0));
        Check.fails("leastBound()", on, Check.ARGUMENT, () -> on.leastBound(0, 25, 0));
    }

    private static void firstListed() {
        BrushStrokes on = fullSheet();
        Check.fails("stroke(): a place, no room", on, Check.ARGUMENT, () -> on.stroke(-1, 0, 0, 0));
        Check.fails("draw(): no text, no room", on, Check.ARGUMENT, () -> on.draw());
        Check.fails("insert(): no stroke, a width", on, Check.INDEX, () -> on.insert(4, 0, 0, 0, 0));
        Check.fails("insert(): an index, a place", on, Check.INDEX, () -> on.insert(1, 3, 100, 0, 5));
        Check.fails("insert(): an index, no room", on, Check.INDEX, () -> on.insert(0, 25, 0, 0, 5));
        Check.fails("insert(): a place, no room", on, Check.ARGUMENT, () -> on.insert(0, 0, 0, 100, 5));
        Check.fails("insert(): all three", on, Check.INDEX, () -> on.insert(0, -1, 0, 100, 5));
        Check.fails("change(): no stroke, a width", on, Check.INDEX, () -> on.change(-1, 0, 0, 0, 21));
        Check.fails("change(): no point, a place", on, Check.INDEX, () -> on.change(1, 2, -1, 0, 5));
        Check.fails("remove(): no point, only two points", on, Check.INDEX, () -> on.remove(1, 2));
        Check.fails("simplify(): no stroke, a way", on, Check.INDEX, () -> on.simplify(4, 2));
        Check.fails("set(): no setting, a value", on, Check.INDEX, () -> on.set(4, -1));
        Check.fails("set(): no setting, a value", on, Check.INDEX, () -> on.set(-1, 101));
        Check.fails("append(): a code, no room", on, Check.ARGUMENT, () -> on.append(127));
        Check.fails("goBack(): no slot, nothing in it", on, Check.ARGUMENT, () -> on.goBack(2));
        Check.fails("point(): no stroke, no such number", on, Check.INDEX, () -> on.point(4, 0, 6));
        Check.fails("point(): no point, no such number", on, Check.INDEX, () -> on.point(1, 2, -1));
        Check.fails("strokeOf(): no stroke, no such number", on, Check.INDEX, () -> on.strokeOf(4, 11));
        Check.fails("ifSimplified(): no stroke, a bound", on, Check.INDEX, () -> on.ifSimplified(4, 51, 0));
        Check.fails("ifSimplified(): no stroke, a way", on, Check.INDEX, () -> on.ifSimplified(4, 0, 2));
        Check.fails("leastBound(): no stroke, many", on, Check.INDEX, () -> on.leastBound(4, 1, 0));
        Check.fails("leastBound(): no stroke, a way", on, Check.INDEX, () -> on.leastBound(4, 2, 2));
    }

    private static void none() {
        Check.due("the constant", BrushStrokes.NONE, -1);
        Check.due("no nearest point", new BrushStrokes().nearest(0, 0), BrushStrokes.NONE);
        BrushStrokes on = Check.sheet("0,0;10,10;0,0");
        Check.due("no bound", on.leastBound(0, 2, 0), BrushStrokes.NONE);
    }
}
