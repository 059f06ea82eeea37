/** Promises 1, 2 and 4 to 10: strokes, points, simplifying, settings. */
public final class StrokesTest {

    private static final int[] OUT_OF_PLACE = {-1, 100, Integer.MIN_VALUE, Integer.MAX_VALUE};
    private static final int[] NO_INDEX = {-1, 99, Integer.MIN_VALUE, Integer.MAX_VALUE};

    public static void main(String[] args) {
        promise1New();
        promise2Stroke();
        promise4Insert();
        promise4InsertWrong();
        promise5Change();
        promise6Remove();
        promise7Erase();
        promise8Fixed();
        promise8Split();
        promise8Fewest();
        promise8Counts();
        promise9Bake();
        promise10Set();
        Check.end();
    }

    private static void promise1New() {
        BrushStrokes on = new BrushStrokes();
        Check.due("1: a new sheet", Check.face(on), "0 0 0 0 0 0 0 0 3 50 4 20 1.0");
        Check.fails("1: nothing to undo", on, Check.STATE, () -> on.undo());
        Check.fails("1: slot 0 is empty", on, Check.STATE, () -> on.goBack(0));
        Check.fails("1: slot 1 is empty", on, Check.STATE, () -> on.goBack(1));
        Check.due("1: NONE", BrushStrokes.NONE, -1);
    }

    private static void promise2Stroke() {
        BrushStrokes on = new BrushStrokes();
        Check.due("2: the first", on.stroke(0, 99, 99, 0), 0);
        Check.due("2: its points", Check.strokeFace(on, 0), "2 2 0 0 14000 0 0 99 99 0 3 0 : 0 99 5 1 1 0 : 99 0 5 1 1 0");
        Check.due("2: the second", on.stroke(1, 2, 3, 4), 1);
        Check.due("2: the same place twice", on.stroke(7, 7, 7, 7), 2);
        for (int bad : OUT_OF_PLACE) {
            Check.fails("2: x " + bad, on, Check.ARGUMENT, () -> on.stroke(bad, 0, 0, 0));
            Check.fails("2: y " + bad, on, Check.ARGUMENT, () -> on.stroke(0, bad, 0, 0));
            Check.fails("2: toX " + bad, on, Check.ARGUMENT, () -> on.stroke(0, 0, bad, 0));
            Check.fails("2: toY " + bad, on, Check.ARGUMENT, () -> on.stroke(0, 0, 0, bad));
        }
        Check.due("2: the fourth", on.stroke(9, 9, 8, 8), 3);
        Check.due("2: saved", on.count(5), 4);
        Check.fails("2: a fifth", on, Check.STATE, () -> on.stroke(0, 0, 0, 0));
        Check.fails("2: a wrong fifth", on, Check.ARGUMENT, () -> on.stroke(0, 0, 0, 100));
        on.undo();
        Check.due("2: undone", on.count(0), 3);
        Check.due("2: the fourth again", on.stroke(9, 9, 8, 8), 3);
        Check.due("2: its points again", on.strokeOf(3, 0), 2);
    }

    private static void promise4Insert() {
        BrushStrokes on = new BrushStrokes();
        on.stroke(10, 10, 20, 20);
        Check.due("4: behind the last", on.insert(0, 2, 30, 31, 20), 3);
        Check.due("4: before the first", on.insert(0, 0, 0, 99, 1), 4);
        Check.due("4: between", on.insert(0, 2, 15, 14, 7), 5);
        int[][] want = {{0, 99, 1}, {10, 10, 5}, {15, 14, 7}, {20, 20, 5}, {30, 31, 20}};
        for (int k = 0; k < want.length; k++) {
            for (int what = 0; what < 3; what++) {
                Check.due("4: point(0, " + k + ", " + what + ")", on.point(0, k, what), want[k][what]);
            }
        }
        on.undo();
        Check.due("4: undone", on.strokeOf(0, 0), 4);
        Check.due("4: undone", on.point(0, 2, 0), 20);
        BrushStrokes line = Check.sheet("0,0;10,0;20,0;30,0");
        line.simplify(0, 0);
        Check.due("4: simplified", line.strokeOf(0, 10), 9);
        line.insert(0, 4, 40, 0, 5);
        Check.due("4: all are kept again", line.strokeOf(0, 10), 31);
    }

    private static void promise4InsertWrong() {
        BrushStrokes on = new BrushStrokes();
        Check.fails("4: without a stroke", on, Check.INDEX, () -> on.insert(0, 0, 0, 0, 5));
        on.stroke(0, 0, 9, 9);
        for (int bad : NO_INDEX) {
            Check.fails("4: stroke " + bad, on, Check.INDEX, () -> on.insert(bad, 0, 100, 0, 5));
            Check.fails("4: index " + bad, on, Check.INDEX, () -> on.insert(0, bad, 0, 0, 21));
        }
        Check.fails("4: index 3", on, Check.INDEX, () -> on.insert(0, 3, 0, 0, 5));
        Check.fails("4: stroke 1", on, Check.INDEX, () -> on.insert(1, 0, 0, 0, 5));
        for (int bad : OUT_OF_PLACE) {
            Check.fails("4: x " + bad, on, Check.ARGUMENT, () -> on.insert(0, 0, bad, 0, 5));
            Check.fails("4: y " + bad, on, Check.ARGUMENT, () -> on.insert(0, 0, 0, bad, 5));
        }
        for (int bad : new int[] {0, 21, -1, Integer.MAX_VALUE}) {
            Check.fails("4: width " + bad, on, Check.ARGUMENT, () -> on.insert(0, 0, 0, 0, bad));
        }
        for (int k = 3; k <= 24; k++) {
            Check.due("4: the point " + k, on.insert(0, 1, k, k, k % 20 + 1), k);
        }
        Check.due("4: all kept", on.strokeOf(0, 10), (1 << 24) - 1);
        Check.fails("4: a point too many", on, Check.STATE, () -> on.insert(0, 24, 0, 0, 5));
        Check.fails("4: a wrong point too many", on, Check.ARGUMENT, () -> on.insert(0, 24, 0, 0, 0));
        Check.fails("4: none of these", on, Check.INDEX, () -> on.insert(0, 25, 0, 0, 5));
    }

    private static void promise5Change() {
        BrushStrokes on = Check.sheet("12,34;56,78w9;90,0");
        int saved = on.count(5);
        Check.due("5: the previous place", on.change(0, 1, 57, 79, 10), 5678);
        Check.due("5: the last", on.change(0, 2, 0, 99, 1), 9000);
        Check.due("5: the first", on.change(0, 0, 99, 0, 20), 1234);
        Check.due("5: its place", on.change(0, 0, 99, 0, 20), 9900);
        Check.due("5: x", on.point(0, 1, 0), 57);
        Check.due("5: y", on.point(0, 1, 1), 79);
        Check.due("5: width", on.point(0, 1, 2), 10);
        Check.due("5: saved", on.count(5), Math.min(6, saved + 4));
        BrushStrokes line = Check.sheet("0,0;10,0;20,0");
        line.simplify(0, 1);
        line.change(0, 1, 10, 0, 5);
        Check.due("5: to what it was, and all are kept", line.strokeOf(0, 10), 7);
        line.undo();
        Check.due("5: undone", line.strokeOf(0, 10), 5);
        for (int bad : OUT_OF_PLACE) {
            Check.fails("5: stroke", on, Check.INDEX, () -> on.change(bad, 0, 0, 0, 0));
            Check.fails("5: point", on, Check.INDEX, () -> on.change(0, bad, 100, 0, 5));
            Check.fails("5: x", on, Check.ARGUMENT, () -> on.change(0, 0, bad, 0, 5));
            Check.fails("5: y", on, Check.ARGUMENT, () -> on.change(0, 0, 0, bad, 5));
        }
        Check.fails("5: point 3", on, Check.INDEX, () -> on.change(0, 3, 0, 0, 5));
        Check.fails("5: stroke 1", on, Check.INDEX, () -> on.change(1, 0, 0, 0, 5));
        Check.fails("5: width 0", on, Check.ARGUMENT, () -> on.change(0, 0, 0, 0, 0));
        Check.fails("5: width 21", on, Check.ARGUMENT, () -> on.change(0, 0, 0, 0, 21));
    }

    private static void promise6Remove() {
        BrushStrokes on = Check.sheet("0,0w1;10,0w2;20,0w3;30,0w4;40,0w6");
        on.simplify(0, 0);
        Check.due("6: an inner one", on.remove(0, 1), 4);
        Check.due("6: all are kept", on.strokeOf(0, 10), 15);
        Check.due("6: the next moves up", on.point(0, 1, 0), 20);
        Check.due("6: with its width", on.point(0, 1, 2), 3);
        Check.due("6: the first", on.remove(0, 0), 3);
        Check.due("6: the last", on.remove(0, 2), 2);
        Check.due("6: what is left", on.point(0, 0, 0) * 100 + on.point(0, 1, 0), 2030);
        Check.fails("6: only two are left", on, Check.STATE, () -> on.remove(0, 0));
        Check.fails("6: no point 2", on, Check.INDEX, () -> on.remove(0, 2));
        Check.fails("6: no stroke 1", on, Check.INDEX, () -> on.remove(1, 0));
        Check.fails("6: no stroke -1", on, Check.INDEX, () -> on.remove(-1, 0));
        Check.fails("6: no point -1", on, Check.INDEX, () -> on.remove(0, -1));
        on.undo();
        on.undo();
        on.undo();
        Check.due("6: undone", on.strokeOf(0, 10), 17);
    }

    private static void promise7Erase() {
        BrushStrokes on = new BrushStrokes();
        for (int k = 0; k < 4; k++) {
            on.stroke(k, 0, k, 9);
        }
        on.insert(2, 1, 2, 5, 5);
        on.simplify(2, 0);
        Check.due("7: an inner one", on.erase(1), 3);
        Check.due("7: the later ones move up", on.point(1, 0, 0) * 100 + on.point(2, 0, 0), 203);
        Check.due("7: with what they keep", on.strokeOf(1, 10), 5);
        Check.fails("7: no stroke 3", on, Check.INDEX, () -> on.erase(3));
        Check.fails("7: no stroke -1", on, Check.INDEX, () -> on.erase(-1));
        Check.due("7: the last", on.erase(2), 2);
        on.undo();
        on.undo();
        Check.due("7: undone", on.count(0), 4);
        Check.due("7: the erased one is back", on.point(1, 0, 0), 1);
        for (int left = 3; left >= 0; left--) {
            Check.due("7: the first", on.erase(0), left);
        }
        Check.fails("7: none", on, Check.INDEX, () -> on.erase(0));
        Check.due("7: a new one", on.stroke(0, 0, 1, 1), 0);
        Check.due("7: has two points", on.strokeOf(0, 0), 2);
    }

    private static void promise8Fixed() {
        // no point strays, but corners and waists stay
        BrushStrokes on = Check.sheet("0,0w9;10,0w5;20,0w9;30,0w6;40,0w9;40,10;40,20");
        Check.due("8: a waist and a corner stay", on.simplify(0, 0), 4);
        Check.due("8: these", on.strokeOf(0, 10), 1 + 2 + 16 + 64);
        Check.due("8: the same by the other way", on.simplify(0, 1), 4);
        on.set(2, 3);
        Check.due("8: a change of the setting keeps what is kept", on.strokeOf(0, 10), 1 + 2 + 16 + 64);
        Check.due("8: but simplify() asks it", on.simplify(0, 1), 5);
        on.set(1, 0);
        on.set(0, 50);
        Check.due("8: a right angle is no corner with 0", on.simplify(0, 0), 4);
        Check.due("8: these", on.strokeOf(0, 10), 1 + 2 + 8 + 64);
        Check.fails("8: way 2", on, Check.ARGUMENT, () -> on.simplify(0, 2));
        Check.fails("8: way -1", on, Check.ARGUMENT, () -> on.simplify(0, -1));
        Check.fails("8: stroke 1", on, Check.INDEX, () -> on.simplify(1, 2));
        Check.fails("8: stroke -1", on, Check.INDEX, () -> on.simplify(-1, 0));
    }

    private static void promise8Split() {
        BrushStrokes on = Check.sheet("0,0;10,3;20,0;30,3;40,0");
        on.set(1, 0);
        Check.due("8: not farther than the bound", on.simplify(0, 0), 2);
        on.set(0, 2);
        // of 1 and 3 the first one; then 2 and 3 are near enough to the segment from 1 to 4
        Check.due("8: the first of the farthest", on.simplify(0, 0), 3);
        Check.due("8: the point 1", on.strokeOf(0, 10), 1 + 2 + 16);
        BrushStrokes deep = Check.sheet("0,0;10,4;20,2;30,12;40,8;50,10;60,0");
        deep.set(1, 0);
        deep.set(0, 11);
        Check.due("8: the farthest, 12 away; then 2 and 5 are 5.57 away", deep.simplify(0, 0), 3);
        Check.due("8: these", deep.strokeOf(0, 10), 1 + 8 + 64);
        deep.set(0, 5);
        Check.due("8: then 1 and 4 are 2.98 away", deep.simplify(0, 0), 5);
        Check.due("8: these", deep.strokeOf(0, 10), 1 + 4 + 8 + 32 + 64);
        deep.set(0, 12);
        Check.due("8: no point is farther than 12", deep.simplify(0, 0), 2);
        BrushStrokes loop = Check.sheet("0,0;20,0;20,20;0,20;0,0");
        loop.set(1, 0);
        loop.set(0, 28);
        Check.due("8: a loop, its ends at one place", loop.simplify(0, 0), 3);
        Check.due("8: 28 * 28 is less than 800", loop.strokeOf(0, 10), 1 + 4 + 16);
        loop.set(0, 29);
        Check.due("8: 29 * 29 is more", loop.simplify(0, 0), 2);
    }

    private static void promise8Fewest() {
        BrushStrokes on = Check.sheet("0,0;10,3;20,0;30,3;40,0");
        on.set(1, 0);
        on.set(0, 2);
        Check.due("8: the fewest", on.simplify(0, 1), 3);
        Check.due("8: the least of the masks", on.strokeOf(0, 10), 1 + 2 + 16);
        on.set(0, 3);
        Check.due("8: not farther than the bound", on.simplify(0, 1), 2);
        on.set(0, 0);
        Check.due("8: all", on.simplify(0, 1), 5);
        // the point 2 is the first of the farthest, and then 1 and 3 are 1.48 away; without it they are 0.995 away
        BrushStrokes arc = Check.sheet("0,0;10,0;20,3;30,3;40,0");
        arc.set(1, 0);
        arc.set(0, 1);
        Check.due("8: splitting keeps all", arc.simplify(0, 0), 5);
        Check.due("8: the fewest are less", arc.simplify(0, 1), 3);
        Check.due("8: these", arc.strokeOf(0, 10), 1 + 8 + 16);
        BrushStrokes hill = Check.sheet("0,0;10,6;20,7;30,6;40,0");
        hill.set(1, 0);
        hill.set(0, 4);
        hill.simplify(0, 0);
        Check.due("8: splitting keeps the farthest", hill.strokeOf(0, 10), 1 + 4 + 16);
        hill.simplify(0, 1);
        Check.due("8: the least number as a mask", hill.strokeOf(0, 10), 1 + 2 + 16);
    }

    private static void promise8Counts() {
        BrushStrokes on = Check.sheet("0,0;10,0;20,0;30,0;40,0");
        Check.due("8: kept", on.simplify(0, 0), 2);
        Check.due("8: once", on.count(3) * 100 + on.count(4), 103);
        on.simplify(0, 1);
        Check.due("8: twice, and each time all of them", on.count(3) * 100 + on.count(4), 206);
        on.set(2, 1);
        on.set(0, 0);
        on.undo();
        Check.due("8: other calls do not count", on.count(3) * 100 + on.count(4), 206);
        on.set(1, 100);
        on.change(0, 1, 10, 1, 5);
        on.set(0, 50);
        Check.due("8: corners", on.simplify(0, 1), 5 - 1);
        on.set(1, 50);
        Check.due("8: from all its points", on.simplify(0, 1), 2);
        Check.due("8: the counts", on.count(3) * 100 + on.count(4), 410);
        on.undo();
        on.undo();
        on.undo();
        on.undo();
        Check.due("8: the counts are undone too", on.count(3) * 100 + on.count(4), 206);
    }

    private static void promise9Bake() {
        BrushStrokes on = Check.sheet("0,0w2;10,0w3;20,0w4;20,10w8;20,20w7");
        Check.due("9: all are kept", on.bake(0), 0);
        on.simplify(0, 0);
        int saved = on.count(5);
        Check.due("9: what is not kept goes", on.bake(0), 2);
        Check.due("9: saved", on.count(5), Math.min(6, saved + 1));
        Check.due("9: three are left", Check.strokeFace(on, 0),
                "3 3 1 0 4000 0 0 20 20 1 7 0 : 0 0 2 1 1 0 : 20 0 4 1 2 0 : 20 20 7 1 1 0");
        on.undo();
        Check.due("9: undone", on.strokeOf(0, 0), 5);
        Check.due("9: with what was kept", on.strokeOf(0, 10), 1 + 4 + 16);
        Check.fails("9: stroke 1", on, Check.INDEX, () -> on.bake(1));
        Check.fails("9: stroke -1", on, Check.INDEX, () -> on.bake(-1));
    }

    private static void promise10Set() {
        BrushStrokes on = new BrushStrokes();
        int[] first = {3, 50, 4, 20};
        int[] least = {0, 0, 1, 0};
        int[] greatest = {50, 100, 20, 100};
        for (int setting = 0; setting < 4; setting++) {
            int number = setting;
            Check.due("10: at first", on.set(setting, least[setting]), first[setting]);
            Check.due("10: the least", on.set(setting, greatest[setting]), least[setting]);
            Check.due("10: the greatest", on.setting(setting), greatest[setting]);
            Check.fails("10: too little", on, Check.ARGUMENT, () -> on.set(number, least[number] - 1));
            Check.fails("10: too much", on, Check.ARGUMENT, () -> on.set(number, greatest[number] + 1));
        }
        Check.due("10: saved", on.count(5), 6);
        Check.fails("10: no setting 4", on, Check.INDEX, () -> on.set(4, 0));
        Check.fails("10: no setting -1", on, Check.INDEX, () -> on.set(-1, -1));
        on.undo();
        Check.due("10: undone", on.setting(3), 0);
        on.undo();
        Check.due("10: undone", on.setting(3), 20);
    }
}
