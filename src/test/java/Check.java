import java.util.function.IntSupplier;
import java.util.function.Supplier;

/** What the tests share: they note every answer that is not due, and end with exit code 1 if there was one. */
final class Check {

    static final Class<? extends RuntimeException> INDEX = IndexOutOfBoundsException.class;
    static final Class<? extends RuntimeException> ARGUMENT = IllegalArgumentException.class;
    static final Class<? extends RuntimeException> STATE = IllegalStateException.class;

    private static final int[] FAR_AWAY = {Integer.MIN_VALUE, Integer.MIN_VALUE + 1, -100, 1000, Integer.MAX_VALUE};

    private static int checks = 0;
    private static int wrong = 0;
    private static String sentence = "";

    /** A call with one number that is tried in and out of its range. */
    interface Call {
        int on(BrushStrokes sheet, int number);
    }

    private Check() {
    }

    static void due(String what, Object got, Object want) {
        checks++;
        if (!want.equals(got)) {
            wrong++;
            System.out.println((sentence.isEmpty() ? "" : sentence + "\n    ") + what + " answered " + got + ", due is " + want);
        }
    }

    /** The test of one sentence of the document; its answers are printed with the sentence, and it asks for some. */
    static void sentence(String said, Runnable test) {
        sentence = said;
        int before = checks;
        try {
            test.run();
        } catch (RuntimeException e) {
            due("the test", e.toString(), "ends");
        }
        due("the test asks for something", checks > before, true);
        sentence = "";
    }

    /** Every number of the range is taken; those beside it and far away are refused with this. */
    static void range(String what, Supplier<BrushStrokes> fresh, int least, int greatest,
            Class<? extends RuntimeException> refused, Call call) {
        for (int number = least; number <= greatest; number++) {
            BrushStrokes on = fresh.get();
            int taken = number;
            due(what + " " + number, answer(() -> call.on(on, taken)).startsWith("throws"), false);
        }
        BrushStrokes on = fresh.get();
        fails(what + " " + (least - 1), on, refused, () -> call.on(on, least - 1));
        fails(what + " " + (greatest + 1), on, refused, () -> call.on(on, greatest + 1));
        for (int far : FAR_AWAY) {
            fails(what + " " + far, on, refused, () -> call.on(on, far));
        }
    }

    /** The call saves the state from before it. */
    static void undoable(String what, BrushStrokes on, IntSupplier call) {
        String before = stateFace(on);
        int saved = on.count(5);
        call.getAsInt();
        due(what + ": saved states", on.count(5), Math.min(6, saved + 1));
        due(what + ": saved states after undo()", on.undo(), Math.min(5, saved));
        due(what + ": undone", stateFace(on), before);
    }

    /** The call saves no state, and forgets none, also where six are saved. */
    static void notUndoable(String what, BrushStrokes on, IntSupplier call) {
        int join = on.setting(3);
        on.set(3, join == 0 ? 1 : join - 1);
        int saved = on.count(5);
        call.getAsInt();
        due(what + ": saved states", on.count(5), saved);
        on.undo();
        due(what + ": the state that was saved last", on.setting(3), join);
    }

    /** A query: nothing changes that can be seen, and no state is saved. */
    static void changesNothing(String what, BrushStrokes on, IntSupplier call) {
        String before = face(on);
        call.getAsInt();
        due(what + ": the state behind it", face(on), before);
        notUndoable(what, on, call);
    }

    /** The call throws exactly this, and changes nothing that can be seen. */
    static void fails(String what, BrushStrokes on, Class<? extends RuntimeException> want, IntSupplier call) {
        String before = face(on);
        due(what, answer(call), "throws " + want.getSimpleName());
        due(what + ": the state behind it", face(on), before);
    }

    static String answer(IntSupplier call) {
        try {
            return "" + call.getAsInt();
        } catch (RuntimeException e) {
            return "throws " + e.getClass().getSimpleName();
        }
    }

    /** All that the queries tell, but for distances and what would be. */
    static String face(BrushStrokes on) {
        return on.count(5) + " " + on.count(6) + " " + on.firstError() + " " + stateFace(on);
    }

    /** What the queries tell of the state: all but the saved ones and the buffer. */
    static String stateFace(BrushStrokes on) {
        StringBuilder all = new StringBuilder();
        for (int what = 0; what <= 4; what++) {
            all.append(on.count(what)).append(' ');
        }
        for (int setting = 0; setting <= 3; setting++) {
            all.append(on.setting(setting)).append(' ');
        }
        all.append(on.share());
        for (int stroke = 0; stroke < on.count(0); stroke++) {
            all.append("\n ").append(strokeFace(on, stroke));
        }
        return all.toString();
    }

    static String strokeFace(BrushStrokes on, int stroke) {
        StringBuilder all = new StringBuilder();
        for (int what = 0; what <= 10; what++) {
            all.append(on.strokeOf(stroke, what)).append(' ');
        }
        all.append(on.crossings(stroke));
        for (int index = 0; index < on.strokeOf(stroke, 0); index++) {
            all.append(" :");
            for (int what = 0; what <= 5; what++) {
                all.append(' ').append(on.point(stroke, index, what));
            }
        }
        return all.toString();
    }

    static void type(BrushStrokes on, String text) {
        for (int k = 0; k < text.length(); k++) {
            on.append(text.charAt(k));
        }
    }

    static int draw(BrushStrokes on, String text) {
        on.clearBuffer();
        type(on, text);
        return on.draw();
    }

    /** A sheet with one stroke; for texts that are too long for the buffer. */
    static BrushStrokes sheet(String text) {
        BrushStrokes on = new BrushStrokes();
        on.stroke(0, 0, 0, 0);
        String[] points = text.split(";");
        for (int k = 0; k < points.length; k++) {
            String[] numbers = points[k].split("[,w]");
            int width = numbers.length > 2 ? Integer.parseInt(numbers[2]) : 5;
            int x = Integer.parseInt(numbers[0]);
            int y = Integer.parseInt(numbers[1]);
            if (k < 2) {
                on.change(0, k, x, y, width);
            } else {
                on.insert(0, k, x, y, width);
            }
        }
        return on;
    }

    static void end() {
        System.out.println(wrong == 0 ? checks + " answers are as due" : wrong + " answers are not as due");
        if (wrong != 0) {
            System.exit(1);
        }
    }
}
