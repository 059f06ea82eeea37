import java.util.function.IntSupplier;

/** Long runs of calls, with right and wrong arguments, on the class and on the model; every answer is compared. */
public final class ModelTest {

    private static final int RUNS = 240;
    private static final int CALLS = 512;
    private static final String SIGNS = "0123456789,,,,;;;w";

    private long seed;
    private int grid;
    private int fill;
    private boolean smooth;
    private BrushStrokes on;
    private Model model;

    public static void main(String[] args) {
        ModelTest test = new ModelTest();
        for (int run = 0; run < RUNS; run++) {
            test.run(run);
        }
        Check.end();
    }

    private void run(int run) {
        seed = 1000003L * run + 17;
        grid = new int[] {100, 100, 12, 4}[run % 4];
        fill = run % 3;
        smooth = run % 5 > 2;
        on = new BrushStrokes();
        model = new Model();
        if (smooth) {
            same("run " + run + ": set", () -> on.set(1, 0), () -> model.set(1, 0));
        }
        for (int call = 0; call < CALLS; call++) {
            step("run " + run + ", call " + call);
        }
    }

    private int next(int below) {
        seed = seed * 6364136223846793005L + 1442695040888963407L;
        return (int) ((seed >>> 33) % below);
    }

    // now and then a number that is out of range
    private int number(int least, int greatest) {
        int odd = next(60);
        if (odd == 0) {
            return least - 1;
        }
        if (odd == 1) {
            return greatest + 1;
        }
        return least + next(greatest - least + 1);
    }

    private int place() {
        return next(80) == 0 ? number(0, 99) : next(grid);
    }

    // where points go from left to right there are few corners, and much to simplify
    private int across(int index) {
        return smooth ? Math.max(0, 4 * index % 97 + next(3)) : place();
    }

    private int down() {
        return smooth ? next(8) : place();
    }

    private int strokeNumber() {
        return number(0, Math.max(on.count(0) - 1, 0));
    }

    private int pointNumber(int stroke, int more) {
        int size = stroke >= 0 && stroke < on.count(0) ? on.strokeOf(stroke, 0) : 2;
        return number(0, size - 1 + more);
    }

    private void same(String what, IntSupplier one, IntSupplier other) {
        Check.due(what, Check.answer(one), Check.answer(other));
    }

    private void step(String where) {
        int kind = next(40);
        if (kind < 18) {
            changeStrokes(where, kind);
        } else if (kind < 28) {
            changeMore(where, kind);
        } else {
            ask(where, kind);
        }
    }

    private void changeStrokes(String where, int kind) {
        int stroke = strokeNumber();
        int index = pointNumber(stroke, kind < 10 ? 1 : 0);
        int x = across(index);
        int y = down();
        int toX = place();
        int toY = place();
        int width = number(1, 20);
        if (kind == 0) {
            same(where + ": stroke", () -> on.stroke(x, y, toX, toY), () -> model.stroke(x, y, toX, toY));
        } else if (kind == 1) {
            same(where + ": erase", () -> fill > 0 ? 0 : on.erase(stroke), () -> fill > 0 ? 0 : model.erase(stroke));
        } else if (kind < 8 + 2 * fill) {
            same(where + ": insert", () -> on.insert(stroke, index, x, y, width),
                    () -> model.insert(stroke, index, x, y, width));
        } else if (kind < 13) {
            same(where + ": change", () -> on.change(stroke, index, x, y, width),
                    () -> model.change(stroke, index, x, y, width));
        } else if (kind == 13) {
            same(where + ": remove", () -> on.remove(stroke, index), () -> model.remove(stroke, index));
        } else if (kind < 17) {
            int way = number(0, 1);
            same(where + ": simplify", () -> on.simplify(stroke, way), () -> model.simplify(stroke, way));
        } else {
            same(where + ": bake", () -> fill > 1 ? 0 : on.bake(stroke), () -> fill > 1 ? 0 : model.bake(stroke));
        }
    }

    private void changeMore(String where, int kind) {
        int setting = number(0, 3);
        int value = number(setting == 2 ? 1 : 0, new int[] {50, 50, 100, 20, 100, 100}[setting + 1]);
        int slot = number(0, 1);
        if (kind == 18) {
            same(where + ": set", () -> on.set(setting, value), () -> model.set(setting, value));
        } else if (kind == 19) {
            same(where + ": undo", () -> on.undo(), () -> model.undo());
        } else if (kind == 20) {
            same(where + ": keep", () -> on.keep(slot), () -> model.keep(slot));
        } else if (kind == 21) {
            same(where + ": goBack", () -> on.goBack(slot), () -> model.goBack(slot));
        } else if (kind == 22) {
            same(where + ": clearBuffer", () -> on.clearBuffer(), () -> model.clearBuffer());
        } else if (kind == 23) {
            same(where + ": draw", () -> on.draw(), () -> model.draw());
        } else if (kind == 24) {
            typeStroke(where);
        } else {
            type(where, next(30) == 0 ? number(33, 126) : SIGNS.charAt(next(SIGNS.length())));
        }
    }

    private void type(String where, int code) {
        same(where + ": append", () -> on.append(code), () -> model.append(code));
        same(where + ": firstError", () -> on.firstError(), () -> model.firstError());
    }

    private void typeStroke(String where) {
        same(where + ": clearBuffer", () -> on.clearBuffer(), () -> model.clearBuffer());
        int points = 1 + next(14);
        StringBuilder text = new StringBuilder();
        for (int k = 0; k < points; k++) {
            text.append(k > 0 ? ";" : "").append(across(k)).append(',').append(down());
            if (next(3) == 0) {
                text.append('w').append(number(1, 20));
            }
        }
        for (int k = 0; k < text.length(); k++) {
            type(where, text.charAt(k));
        }
        same(where + ": draw", () -> on.draw(), () -> model.draw());
    }

    private void ask(String where, int kind) {
        int stroke = strokeNumber();
        int index = pointNumber(stroke, 0);
        int from = pointNumber(stroke, 0);
        int to = pointNumber(stroke, 0);
        int bound = next(2) == 0 ? number(0, 50) : number(0, 5);
        int many = number(2, 24);
        int way = number(0, 1);
        int x = place();
        int y = place();
        int what = number(0, 10);
        if (kind < 31) {
            same(where + ": ifSimplified", () -> on.ifSimplified(stroke, bound, way),
                    () -> model.ifSimplified(stroke, bound, way));
        } else if (kind == 31) {
            same(where + ": leastBound", () -> on.leastBound(stroke, many, way),
                    () -> model.leastBound(stroke, many, way));
        } else if (kind == 32) {
            same(where + ": nearest", () -> on.nearest(x, y), () -> model.nearest(x, y));
        } else if (kind == 33) {
            same(where + ": distance", () -> on.distance(stroke, index, from, to),
                    () -> model.distance(stroke, index, from, to));
        } else if (kind == 34) {
            same(where + ": point", () -> on.point(stroke, index, what), () -> model.point(stroke, index, what));
        } else if (kind == 35) {
            same(where + ": count", () -> on.count(what), () -> model.count(what));
            same(where + ": setting", () -> on.setting(what), () -> model.setting(what));
        } else {
            compareAll(where);
        }
    }

    private void compareAll(String where) {
        Check.due(where + ": share", on.share(), model.share());
        for (int what = 0; what <= 6; what++) {
            int number = what;
            same(where + ": count " + what, () -> on.count(number), () -> model.count(number));
        }
        for (int stroke = 0; stroke < on.count(0); stroke++) {
            compareStroke(where + ", stroke " + stroke, stroke);
        }
    }

    private void compareStroke(String where, int stroke) {
        same(where + ": crossings", () -> on.crossings(stroke), () -> model.crossings(stroke));
        for (int what = -1; what <= 11; what++) {
            int number = what;
            same(where + ": strokeOf " + what, () -> on.strokeOf(stroke, number), () -> model.strokeOf(stroke, number));
        }
        for (int index = 0; index < on.strokeOf(stroke, 0); index++) {
            int at = index;
            for (int what = 0; what <= 5; what++) {
                int number = what;
                same(where + ": point " + index + ", " + what, () -> on.point(stroke, at, number),
                        () -> model.point(stroke, at, number));
            }
        }
    }
}
