/** Promises 3 and 11 to 13: the buffer and what it draws. */
public final class TextTest {

    private static final String LONGEST = "10,10w10;20,20w20;30,30w11;40,40w12;50,50w13;60,60w14;70,70w15;80,80w1";

    public static void main(String[] args) {
        promise3Draw();
        promise3Incomplete();
        promise3Full();
        promise11Append();
        promise12Clear();
        promise13FirstError();
        Check.end();
    }

    private static void promise3Draw() {
        BrushStrokes on = new BrushStrokes();
        Check.due("3: two points", Check.draw(on, "0,0;99,99"), 0);
        Check.due("3: the usual widths", Check.strokeFace(on, 0), "2 2 0 0 14000 0 0 99 99 0 3 0 : 0 0 5 1 1 0 : 99 99 5 1 1 0");
        Check.due("3: the buffer is empty", on.count(6), 0);
        Check.due("3: saved", on.count(5), 1);
        Check.due("3: widths", Check.draw(on, "1,2w1;3,4;5,6w20"), 1);
        Check.due("3: widths", on.point(1, 0, 2) * 10000 + on.point(1, 1, 2) * 100 + on.point(1, 2, 2), 10520);
        Check.due("3: places", on.point(1, 1, 0) * 100 + on.point(1, 2, 1), 306);
        Check.type(on, "7,7");
        Check.due("3: undo() leaves the buffer", on.undo(), 1);
        Check.due("3: undo() leaves the buffer", on.count(6), 3);
        Check.due("3: the longest text", Check.draw(on, LONGEST), 1);
        Check.due("3: its points", on.strokeOf(1, 0), 8);
        Check.due("3: many points", Check.draw(on, "0,0;1,1;2,2;3,3;4,4;5,5;6,6;7,7;8,8;9,9;0,0;1,1;2,2;3,3;4,4;5,5;6,6"), 2);
        Check.due("3: many points", on.strokeOf(2, 0), 17);
        Check.due("3: all kept", on.strokeOf(2, 10), (1 << 17) - 1);
    }

    private static void promise3Incomplete() {
        String[] texts = {"", "1", "1,", "1,1", "1,1w5", "1,1;", "1,1;2", "1,1;2,", "1,1;2,2w", "1,1;2,2;", "1,1;2,2,",
            "1,1;02,2", "1,1;2,100", "1,1;2,2w21", "1,1;2,2w0", "1;2", ";1,1;2,2", "1,1w5,1", "1,1;2,2x", "1,1w5w5;2,2", "1w5;2,2"};
        for (String text : texts) {
            BrushStrokes on = new BrushStrokes();
            Check.type(on, text);
            Check.fails("3: '" + text + "'", on, Check.ARGUMENT, () -> on.draw());
        }
    }

    private static void promise3Full() {
        BrushStrokes on = new BrushStrokes();
        for (int k = 0; k < 4; k++) {
            Check.due("3: stroke " + k, Check.draw(on, "0,0;1,1"), k);
        }
        Check.type(on, "0,0;1,");
        Check.fails("3: incomplete and full", on, Check.ARGUMENT, () -> on.draw());
        Check.type(on, "1");
        Check.fails("3: full", on, Check.STATE, () -> on.draw());
        on.erase(0);
        Check.due("3: room again", on.draw(), 3);
    }

    private static void promise11Append() {
        BrushStrokes on = new BrushStrokes();
        for (int bad : new int[] {32, 127, -1, 0, Integer.MIN_VALUE, Integer.MAX_VALUE}) {
            Check.fails("11: " + bad, on, Check.ARGUMENT, () -> on.append(bad));
        }
        Check.due("11: the first sign", on.append(33), 1);
        Check.due("11: the last sign", on.append(126), 2);
        for (int k = 3; k <= 70; k++) {
            Check.due("11: " + k, on.append('0'), k);
        }
        Check.fails("11: full", on, Check.STATE, () -> on.append('0'));
        Check.fails("11: full and wrong", on, Check.ARGUMENT, () -> on.append(32));
        Check.due("11: not saved", on.count(5), 0);
    }

    private static void promise12Clear() {
        BrushStrokes on = new BrushStrokes();
        Check.due("12: empty", on.clearBuffer(), 0);
        Check.type(on, "1,1;");
        Check.due("12: four", on.clearBuffer(), 4);
        Check.due("12: none", on.clearBuffer(), 0);
        Check.due("12: not saved", on.count(5), 0);
        Check.type(on, "1,1;2,2");
        Check.due("12: a new text", on.draw(), 0);
        Check.due("12: its points alone", on.strokeOf(0, 0), 2);
    }

    private static void promise13FirstError() {
        firstError("", 0);
        firstError("5", 1);
        firstError("a", 0);
        firstError(",", 0);
        firstError(";", 0);
        firstError("w", 0);
        firstError("00", 1);
        firstError("01,1", 1);
        firstError("99,99w20;0,0w1", 14);
        firstError("100", 2);
        firstError("1;", 1);
        firstError("1w", 1);
        firstError("1,,", 2);
        firstError("1,w", 2);
        firstError("1,;", 2);
        firstError("1,1,", 3);
        firstError("1,00", 3);
        firstError("1,100", 4);
        firstError("1,1w;", 4);
        firstError("1,1w0", 4);
        firstError("1,1W5", 3);
        firstError("1,1w19", 6);
        firstError("1,1w20", 6);
        firstError("1,1w21", 5);
        firstError("1,1w30", 5);
        firstError("1,1w100", 6);
        firstError("1,1w200", 6);
        firstError("1,1w5w", 5);
        firstError("1,1w5,", 5);
        firstError("1,1;;", 4);
        firstError("1,1;2,2;", 8);
        firstError("1,1;2,2;x9", 8);
        firstError("-1,1", 0);
        firstError(LONGEST, 70);
        firstError("0,0;1,1;2,2;3,3;4,4;5,5;6,6;7,7;8,8;9,9;0,0;1,1;2,2;3,3;4,4;5,5;6,6;7,", 70);
    }

    private static void firstError(String text, int want) {
        BrushStrokes on = new BrushStrokes();
        Check.type(on, text);
        Check.due("13: '" + text + "'", on.firstError(), want);
        Check.due("13: nothing changes", on.firstError() * 100 + on.count(6), want * 100 + text.length());
    }
}
