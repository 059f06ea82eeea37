import java.util.function.IntSupplier;

/** What the tests share: they note every answer that is not due, and end with exit code 1 if there was one. */
final class Check {

    static final Class<? extends RuntimeException> INDEX = IndexOutOfBoundsException.class;
    static final Class<? extends RuntimeException> ARGUMENT = IllegalArgumentException.class;
    static final Class<? extends RuntimeException> STATE = IllegalStateException.class;

    private static int checks = 0;
    private static int wrong = 0;

    private Check() {
    }

    static void due(String what, Object got, Object want) {
        checks++;
        if (!want.equals(got)) {
            wrong++;
            System.out.println(what + " answered " + got + ", due is " + want);
        }
    }

    /** The call throws exactly this, and changes nothing that can be seen. */
    static void fails(String what, BrushStrokes on, Class<? extends RuntimeException> want, IntSupplier call) {
        String before = face(on);
        due(what, answer(call), "throws " + want.getSimpleName());
        due(what + ": the state behind it", face(on), before);
    }

    static String answer(IntSupplier call) {
        try {
            return "" + call.getAsInt();
        } catch (RuntimeException e) {
            return "throws " + e.getClass().getSimpleName();
        }
    }

    /** All that the queries tell, but for distances and what would be. */
    static String face(BrushStrokes on) {
        StringBuilder all = new StringBuilder();
        for (int what = 0; what <= 6; what++) {
            all.append(on.count(what)).append(' ');
        }
        for (int setting = 0; setting <= 3; setting++) {
            all.append(on.setting(setting)).append(' ');
        }
        all.append(on.firstError()).append(' ').append(on.share());
        for (int stroke = 0; stroke < on.count(0); stroke++) {
            all.append("\n ").append(strokeFace(on, stroke));
        }
        return all.toString();
    }

    static String strokeFace(BrushStrokes on, int stroke) {
        StringBuilder all = new StringBuilder();
        for (int what = 0; what <= 10; what++) {
            all.append(on.strokeOf(stroke, what)).append(' ');
        }
        all.append(on.crossings(stroke));
        for (int index = 0; index < on.strokeOf(stroke, 0); index++) {
            all.append(" :");
            for (int what = 0; what <= 5; what++) {
                all.append(' ').append(on.point(stroke, index, what));
            }
        }
        return all.toString();
    }

    static void type(BrushStrokes on, String text) {
        for (int k = 0; k < text.length(); k++) {
            on.append(text.charAt(k));
        }
    }

    static int draw(BrushStrokes on, String text) {
        on.clearBuffer();
        type(on, text);
        return on.draw();
    }

    /** A sheet with one stroke; for texts that are too long for the buffer. */
    static BrushStrokes sheet(String text) {
        BrushStrokes on = new BrushStrokes();
        on.stroke(0, 0, 0, 0);
        String[] points = text.split(";");
        for (int k = 0; k < points.length; k++) {
            String[] numbers = points[k].split("[,w]");
            int width = numbers.length > 2 ? Integer.parseInt(numbers[2]) : 5;
            int x = Integer.parseInt(numbers[0]);
            int y = Integer.parseInt(numbers[1]);
            if (k < 2) {
                on.change(0, k, x, y, width);
            } else {
                on.insert(0, k, x, y, width);
            }
        }
        return on;
    }

    static void end() {
        System.out.println(wrong == 0 ? checks + " answers are as due" : wrong + " answers are not as due");
        if (wrong != 0) {
            System.exit(1);
        }
    }
}
