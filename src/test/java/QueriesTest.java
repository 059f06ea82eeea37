/** Promises 17 to 26: what the queries tell, and what would be. */
public final class QueriesTest {

    private static final int[] NO_NUMBER = {-1, 99, Integer.MIN_VALUE, Integer.MAX_VALUE};

    public static void main(String[] args) {
        promise17Point();
        promise17Kinds();
        promise17Stray();
        promise18StrokeOf();
        promise18Strays();
        promise18SharpJoins();
        promise19Distance();
        promise20Crossings();
        promise21Count();
        promise22Setting();
        promise23Nearest();
        promise24IfSimplified();
        promise25LeastBound();
        promise26Share();
        Check.end();
    }

    private static void promise17Point() {
        BrushStrokes on = Check.sheet("1,2w3;50,60w20;99,0");
        Check.due("17: x", on.point(0, 1, 0), 50);
        Check.due("17: y", on.point(0, 1, 1), 60);
        Check.due("17: width", on.point(0, 1, 2), 20);
        Check.due("17: kept", on.point(0, 1, 3), 1);
        Check.due("17: an end", on.point(0, 0, 4), 1);
        Check.due("17: an end", on.point(0, 2, 4), 1);
        for (int bad : NO_NUMBER) {
            Check.fails("17: stroke", on, Check.INDEX, () -> on.point(bad, 0, 6));
            Check.fails("17: point", on, Check.INDEX, () -> on.point(0, bad, 6));
            Check.fails("17: what", on, Check.ARGUMENT, () -> on.point(0, 0, bad));
        }
        Check.fails("17: point 3", on, Check.INDEX, () -> on.point(0, 3, 0));
        Check.fails("17: stroke 1", on, Check.INDEX, () -> on.point(1, 0, 0));
        Check.fails("17: what 6", on, Check.ARGUMENT, () -> on.point(0, 0, 6));
    }

    private static void promise17Kinds() {
        // p = 300, q = 900 * 500: p * p * 10000 is less than 45 * 45 * q, but not than 44 * 44 * q
        BrushStrokes on = Check.sheet("0,0;30,0;40,20");
        on.set(1, 45);
        Check.due("17: a corner", on.point(0, 1, 4), 2);
        on.set(1, 44);
        Check.due("17: no corner", on.point(0, 1, 4), 0);
        BrushStrokes exact = Check.sheet("0,0;20,0;50,40");
        exact.set(1, 60);
        Check.due("17: as wide as the setting is no corner", exact.point(0, 1, 4), 0);
        exact.set(1, 61);
        Check.due("17: below it is one", exact.point(0, 1, 4), 2);
        BrushStrokes back = Check.sheet("0,0;30,0;29,0");
        back.set(1, 0);
        Check.due("17: backwards is always a corner", back.point(0, 1, 4), 2);
        BrushStrokes same = Check.sheet("5,5;5,5;30,0;30,0");
        same.set(1, 100);
        Check.due("17: no way in", same.point(0, 1, 4), 0);
        Check.due("17: no way out", same.point(0, 2, 4), 0);
        BrushStrokes thin = Check.sheet("0,0w9;10,0w5;20,0w9;20,10w5;20,20w8;20,30w4;20,40w8");
        Check.due("17: a waist", thin.point(0, 1, 4), 4);
        Check.due("17: a corner that is no waist", thin.point(0, 2, 4), 2);
        Check.due("17: too thick for the next", thin.point(0, 3, 4), 0);
        Check.due("17: a waist", thin.point(0, 5, 4), 4);
        thin.change(0, 6, 0, 30, 8);
        Check.due("17: both", thin.point(0, 5, 4), 6);
        thin.set(2, 5);
        Check.due("17: with the setting now", thin.point(0, 1, 4), 0);
        BrushStrokes ends = Check.sheet("0,0w9;10,0w9;20,0w1;10,0w9");
        Check.due("17: both", ends.point(0, 2, 4), 6);
        ends.remove(0, 3);
        Check.due("17: an end is nothing else", ends.point(0, 2, 4), 1);
        ends.change(0, 0, 0, 0, 1);
        Check.due("17: an end is nothing else", ends.point(0, 0, 4), 1);
    }

    private static void promise17Stray() {
        BrushStrokes on = Check.sheet("0,0;10,2;20,1;30,0");
        Check.due("17: kept points do not stray", on.point(0, 1, 5), 0);
        on.simplify(0, 0);
        Check.due("17: two are not kept", on.strokeOf(0, 10), 9);
        Check.due("17: not kept", on.point(0, 1, 3), 0);
        Check.due("17: its stray", on.point(0, 1, 5), 200);
        Check.due("17: its stray", on.point(0, 2, 5), 100);
        Check.due("17: an end", on.point(0, 3, 5), 0);
        BrushStrokes slanted = Check.sheet("0,0;10,11;30,30");
        slanted.simplify(0, 1);
        Check.due("17: 30 / root 1800 in hundredths", slanted.point(0, 1, 5), 70);
    }

    private static void promise18StrokeOf() {
        BrushStrokes on = Check.sheet("10,20w9;20,21w5;30,20w9;30,40w9;5,41w9");
        on.simplify(0, 0);
        int[] want = {5, 5, 2, 1, 1004 + 1004 + 2000 + 2501, 0, 0, 25, 21, 2, 31};
        Check.due("18: only fixed points", on.strokeOf(0, 10), 31);
        for (int what = 0; what <= 10; what++) {
            Check.due("18: what " + what, on.strokeOf(0, what), want[what]);
        }
        for (int bad : NO_NUMBER) {
            Check.fails("18: stroke", on, Check.INDEX, () -> on.strokeOf(bad, 11));
            Check.fails("18: what", on, Check.ARGUMENT, () -> on.strokeOf(0, bad));
        }
        Check.fails("18: what 11", on, Check.ARGUMENT, () -> on.strokeOf(0, 11));
        Check.fails("18: stroke 1", on, Check.INDEX, () -> on.strokeOf(1, 0));
    }

    private static void promise18Strays() {
        BrushStrokes on = Check.sheet("0,0;10,1;20,2;30,2;40,0;50,1;60,0");
        Check.due("18: nothing strays", on.strokeOf(0, 5) * 10 + on.strokeOf(0, 6), 0);
        on.simplify(0, 1);
        Check.due("18: two are kept", on.strokeOf(0, 1), 2);
        Check.due("18: the length of these", on.strokeOf(0, 4), 6000);
        Check.due("18: the greatest", on.strokeOf(0, 5), 200);
        Check.due("18: the first of these", on.strokeOf(0, 6), 2);
        Check.due("18: corners are counted among all points", on.strokeOf(0, 2), 0);
        Check.due("18: and the spans", on.strokeOf(0, 8), 2);
        BrushStrokes straight = Check.sheet("0,0;10,0;20,0");
        straight.simplify(0, 0);
        Check.due("18: no stray", straight.strokeOf(0, 5) * 10 + straight.strokeOf(0, 6), 0);
    }

    private static void promise18SharpJoins() {
        BrushStrokes on = Check.sheet("0,0;20,0;40,2;42,20;42,40");
        on.set(1, 0);
        Check.due("18: in the whole stroke", on.strokeOf(0, 9), 0);
        on.set(3, 30);
        Check.due("18: with a wider setting", on.strokeOf(0, 9), 1);
        on.set(0, 3);
        on.simplify(0, 0);
        Check.due("18: kept", on.strokeOf(0, 10), 1 + 4 + 16);
        on.set(3, 10);
        Check.due("18: the setting 1 does not matter", on.strokeOf(0, 9), 0);
        on.set(3, 11);
        Check.due("18: among the kept points", on.strokeOf(0, 9), 1);
        on.set(3, 100);
        Check.due("18: only kept points", on.strokeOf(0, 9), 1);
        Check.due("18: not the corners", on.strokeOf(0, 2), 0);
    }

    private static void promise19Distance() {
        BrushStrokes on = Check.sheet("0,0;10,0;3,4;13,4;5,1;0,0");
        Check.due("19: above", on.distance(0, 2, 0, 1), 400);
        Check.due("19: before", on.distance(0, 2, 1, 3), 806);
        Check.due("19: behind", on.distance(0, 3, 0, 1), 500);
        Check.due("19: behind, from the other side", on.distance(0, 3, 1, 0), 500);
        Check.due("19: no length", on.distance(0, 2, 0, 5), 500);
        Check.due("19: itself", on.distance(0, 1, 1, 2), 0);
        Check.due("19: rounded down", on.distance(0, 4, 0, 2), 340);
        for (int bad : NO_NUMBER) {
            Check.fails("19: stroke", on, Check.INDEX, () -> on.distance(bad, 0, 0, 1));
            Check.fails("19: index", on, Check.INDEX, () -> on.distance(0, bad, 0, 1));
            Check.fails("19: from", on, Check.INDEX, () -> on.distance(0, 0, bad, 1));
            Check.fails("19: to", on, Check.INDEX, () -> on.distance(0, 0, 1, bad));
        }
        Check.fails("19: to 6", on, Check.INDEX, () -> on.distance(0, 0, 1, 6));
        BrushStrokes wide = Check.sheet("0,0;99,99;99,0");
        Check.due("19: the greatest", wide.distance(0, 1, 0, 0), 14000);
        Check.due("19: half of it", wide.distance(0, 2, 0, 1), 7000);
    }

    private static void promise20Crossings() {
        Check.due("20: one", Check.sheet("0,0;20,20;20,0;0,20").crossings(0), 1);
        Check.due("20: only touched", Check.sheet("0,0;20,0;20,20;10,0;10,10").crossings(0), 0);
        Check.due("20: along", Check.sheet("0,0;20,0;20,5;30,0;10,0").crossings(0), 0);
        Check.due("20: neighbours", Check.sheet("0,0;20,0;10,0").crossings(0), 0);
        Check.due("20: a star", Check.sheet("50,0;20,90;99,30;0,30;80,90;50,0").crossings(0), 5);
        Check.due("20: beside", Check.sheet("0,10;10,10;30,30;50,0;50,20").crossings(0), 0);
        // the last segment ends between the bump and the segment that is left of it
        keptCrossings("0,20;20,23;40,20;40,40;22,40;22,21", 1, 0);
        keptCrossings("22,21;22,40;40,40;40,20;20,23;0,20", 1, 0);
        keptCrossings("0,20;20,17;40,20;40,40;22,40;22,19", 0, 1);
        keptCrossings("22,19;22,40;40,40;40,20;20,17;0,20", 0, 1);
        BrushStrokes on = Check.sheet("0,0;20,20;20,0;0,20");
        Check.fails("20: stroke 1", on, Check.INDEX, () -> on.crossings(1));
        Check.fails("20: stroke -1", on, Check.INDEX, () -> on.crossings(-1));
    }

    private static void keptCrossings(String text, int before, int behind) {
        BrushStrokes on = Check.sheet(text);
        Check.due("20: of all points", on.crossings(0), before);
        Check.due("20: one point is not kept", on.simplify(0, 0), 5);
        Check.due("20: of the kept points", on.crossings(0), behind);
        on.bake(0);
        Check.due("20: of these points alone", on.crossings(0), behind);
    }

    private static void promise21Count() {
        BrushStrokes on = new BrushStrokes();
        on.stroke(0, 0, 1, 1);
        Check.draw(on, "0,0;10,0;20,0;30,0");
        on.simplify(1, 0);
        Check.type(on, "12");
        int[] want = {2, 6, 4, 1, 2, 3, 2};
        for (int what = 0; what <= 6; what++) {
            Check.due("21: what " + what, on.count(what), want[what]);
        }
        on.simplify(1, 1);
        on.simplify(0, 1);
        Check.due("21: three times", on.count(3) * 10 + on.count(4), 34);
        on.erase(1);
        Check.due("21: of strokes that are gone too", on.count(3) * 10 + on.count(4), 34);
        on.keep(0);
        on.stroke(0, 0, 1, 1);
        on.simplify(0, 0);
        on.goBack(0);
        Check.due("21: a snapshot has them too", on.count(3) * 10 + on.count(4), 34);
        for (int bad : new int[] {-1, 7, Integer.MIN_VALUE, Integer.MAX_VALUE}) {
            Check.fails("21: what " + bad, on, Check.ARGUMENT, () -> on.count(bad));
        }
    }

    private static void promise22Setting() {
        BrushStrokes on = new BrushStrokes();
        int[] want = {3, 50, 4, 20};
        for (int setting = 0; setting < 4; setting++) {
            Check.due("22: at first", on.setting(setting), want[setting]);
            on.set(setting, 7 + setting);
        }
        for (int setting = 0; setting < 4; setting++) {
            Check.due("22: now", on.setting(setting), 7 + setting);
        }
        for (int bad : new int[] {-1, 4, Integer.MIN_VALUE, Integer.MAX_VALUE}) {
            Check.fails("22: " + bad, on, Check.INDEX, () -> on.setting(bad));
        }
    }

    private static void promise23Nearest() {
        BrushStrokes on = new BrushStrokes();
        Check.due("23: no strokes", on.nearest(0, 0), BrushStrokes.NONE);
        on.stroke(0, 0, 50, 50);
        on.stroke(50, 50, 99, 0);
        on.insert(1, 1, 60, 50, 5);
        Check.due("23: the stroke with the lowest number", on.nearest(50, 51), 1);
        Check.due("23: in the second", on.nearest(59, 50), 101);
        Check.due("23: the last", on.nearest(99, 99), 101);
        Check.due("23: the point with the lowest number", on.nearest(55, 50), 1);
        on.erase(0);
        Check.due("23: the point with the lowest number", on.nearest(55, 50), 0);
        on.set(0, 50);
        on.set(1, 0);
        on.simplify(0, 0);
        Check.due("23: not kept", on.point(0, 1, 3), 0);
        Check.due("23: points that are not kept too", on.nearest(60, 50), 1);
        for (int bad : new int[] {-1, 100, Integer.MIN_VALUE, Integer.MAX_VALUE}) {
            Check.fails("23: x " + bad, on, Check.ARGUMENT, () -> on.nearest(bad, 0));
            Check.fails("23: y " + bad, on, Check.ARGUMENT, () -> on.nearest(0, bad));
        }
    }

    private static void promise24IfSimplified() {
        BrushStrokes on = Check.sheet("0,0;10,3;20,0;30,3;40,0");
        on.set(1, 0);
        on.simplify(0, 0);
        String before = Check.face(on);
        for (int way = 0; way < 2; way++) {
            Check.due("24: bound 0", on.ifSimplified(0, 0, way), 5);
            Check.due("24: bound 2", on.ifSimplified(0, 2, way), 3);
            Check.due("24: bound 3", on.ifSimplified(0, 3, way), 2);
            Check.due("24: bound 50", on.ifSimplified(0, 50, way), 2);
        }
        Check.due("24: nothing changes", Check.face(on), before);
        on.set(1, 100);
        Check.due("24: the corners as they are now", on.ifSimplified(0, 50, 1), 5);
        for (int bad : new int[] {-1, 51, Integer.MIN_VALUE, Integer.MAX_VALUE}) {
            Check.fails("24: bound", on, Check.ARGUMENT, () -> on.ifSimplified(0, bad, 0));
            Check.fails("24: way", on, Check.ARGUMENT, () -> on.ifSimplified(0, 0, bad));
            Check.fails("24: stroke", on, Check.INDEX, () -> on.ifSimplified(bad, 51, 2));
        }
        Check.fails("24: way 2", on, Check.ARGUMENT, () -> on.ifSimplified(0, 0, 2));
        Check.fails("24: stroke 1", on, Check.INDEX, () -> on.ifSimplified(1, 0, 0));
    }

    private static void promise25LeastBound() {
        BrushStrokes on = Check.sheet("0,0;10,3;20,0;30,3;40,0");
        on.set(1, 0);
        String before = Check.face(on);
        for (int way = 0; way < 2; way++) {
            Check.due("25: two points", on.leastBound(0, 2, way), 3);
            Check.due("25: three points", on.leastBound(0, 3, way), 2);
            Check.due("25: all points", on.leastBound(0, 5, way), 0);
            Check.due("25: more points", on.leastBound(0, 24, way), 0);
        }
        Check.due("25: nothing changes", Check.face(on), before);
        on.set(0, 50);
        Check.due("25: the setting 0 does not matter", on.leastBound(0, 2, 1), 3);
        BrushStrokes high = Check.sheet("0,0;10,50;20,0");
        high.set(1, 0);
        Check.due("25: backwards is a corner", high.leastBound(0, 2, 0), BrushStrokes.NONE);
        high.change(0, 1, 0, 50, 5);
        high.change(0, 2, 50, 50, 5);
        Check.due("25: 50 * 50 / 2", high.leastBound(0, 2, 0), 36);
        Check.due("25: 50 * 50 / 2", high.leastBound(0, 2, 1), 36);
        BrushStrokes most = Check.sheet("49,0;99,0;99,99");
        most.set(1, 0);
        Check.due("25: under 50", most.leastBound(0, 2, 1), 45);
        most.change(0, 0, 0, 0, 5);
        most.change(0, 2, 99, 57, 5);
        Check.due("25: 49.4", most.leastBound(0, 2, 0), 50);
        Check.due("25: 49.4", most.leastBound(0, 2, 1), 50);
        most.change(0, 2, 99, 58, 5);
        Check.due("25: above 50", most.leastBound(0, 2, 0), BrushStrokes.NONE);
        Check.due("25: above 50", most.leastBound(0, 2, 1), BrushStrokes.NONE);
        for (int bad : new int[] {-1, 1, 25, Integer.MIN_VALUE, Integer.MAX_VALUE}) {
            Check.fails("25: many", on, Check.ARGUMENT, () -> on.leastBound(0, bad, 0));
        }
        Check.fails("25: way 2", on, Check.ARGUMENT, () -> on.leastBound(0, 2, 2));
        Check.fails("25: way -1", on, Check.ARGUMENT, () -> on.leastBound(0, 2, -1));
        Check.fails("25: stroke 1", on, Check.INDEX, () -> on.leastBound(1, 1, 2));
        Check.fails("25: stroke -1", on, Check.INDEX, () -> on.leastBound(-1, 2, 0));
    }

    private static void promise26Share() {
        BrushStrokes on = new BrushStrokes();
        Check.due("26: no strokes", on.share(), 1.0);
        on.stroke(0, 0, 1, 1);
        Check.due("26: all", on.share(), 1.0);
        Check.draw(on, "0,0;10,0;20,0;30,0;40,0");
        on.simplify(1, 0);
        Check.due("26: four of seven", on.share(), 4.0 / 7.0);
        on.erase(0);
        Check.due("26: two of five", on.share(), 2.0 / 5.0);
        on.erase(0);
        Check.due("26: none again", on.share(), 1.0);
    }
}
