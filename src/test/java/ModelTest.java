/** Long runs of calls, made by a fixed row of numbers, on a Pulsemesh and on its Model: all answers are the same. */
public final class ModelTest {
    private static final int RUNS = 150;
    // With the digests and isSound between them these are 510: an object is used for 512 calls.
    private static final int CALLS = 408;
    private static final int[] FAR = {
        Integer.MIN_VALUE, Integer.MAX_VALUE, -1, 5, 8, 9, 10, 16, 31, 32, 300, 301, 1000};

    private long state;
    private Pulsemesh x;
    private Model model;

    private interface Call {
        Object answer();
    }

    public static void main(String[] args) {
        for (int run = 0; run < RUNS; run++) {
            new ModelTest().goThrough(run);
        }
        Due.end("ModelTest");
    }

    private int next(int bound) {
        state = state * 6364136223846793005L + 1442695040888963407L;
        return (int) ((state >>> 33) % bound);
    }

    /** A number of least to most, now and then one of far out. */
    private int near(int least, int most) {
        if (next(40) == 0) {
            return FAR[next(FAR.length)];
        }
        if (next(40) == 0) {
            return next(2) == 0 ? least - 1 : most + 1;
        }
        return least + next(most - least + 1);
    }

    private void goThrough(int run) {
        state = run * 7919L + 17;
        x = new Pulsemesh();
        model = new Model();
        for (int call = 0; call < CALLS; call++) {
            oneCall("run " + run + ", call " + call + ": ", run);
            if (call % 8 == 7) {
                Due.same("run " + run + ", digest after call " + call, x.digest(), model.digest());
                Due.same("run " + run + ", isSound after call " + call, x.isSound(), true);
            }
        }
    }

    private void oneCall(String when, int run) {
        switch (next(10)) {
            case 0:
                tellWork(when, run);
                break;
            case 1:
            case 2:
            case 3:
                tellOperand(when);
                break;
            case 4:
                tellCell(when, run);
                break;
            case 5:
            case 6:
                goOn(when);
                break;
            case 7:
                look(when);
                break;
            case 8:
                ask(when);
                break;
            default:
                askWhatWouldBe(when);
                break;
        }
    }

    private void tellWork(String when, int run) {
        int r = near(1, 8);
        int k = near(1, 6);
        int c = near(1, 8);
        int kind = near(0, 2);
        boolean is = next(3) != 0;
        switch (next(6)) {
            case 0:
                if (run % 3 != 0 || next(8) == 0) {
                    same(when + "shape", () -> x.shape(r, k, c), () -> model.shape(r, k, c));
                }
                break;
            case 1:
                same(when + "kind", () -> x.kind(kind), () -> model.kind(kind));
                break;
            case 2:
                same(when + "kind", () -> x.kind(0), () -> model.kind(0));
                break;
            default:
                same(when + "checked", () -> x.checked(is), () -> model.checked(is));
                break;
        }
    }

    private void tellOperand(String when) {
        boolean isLeft = next(2) == 0;
        int row = near(0, (isLeft ? model.mesh(0) : model.mesh(1)) - 1);
        int column = near(0, (isLeft ? model.mesh(1) : model.mesh(2)) - 1);
        int value = next(4) == 0 ? 0 : near(-9, 9);
        if (isLeft) {
            same(when + "left", () -> x.left(row, column, value), () -> model.left(row, column, value));
        } else {
            same(when + "top", () -> x.top(row, column, value), () -> model.top(row, column, value));
        }
    }

    private void tellCell(String when, int run) {
        int row = near(0, 4);
        int column = near(0, 4);
        // Some runs break nearly all cells, others hardly any.
        boolean is = next(10) < 1 + run % 9;
        if (next(4) == 0) {
            same(when + "test", () -> x.test(), () -> model.test());
        } else {
            same(when + "broken", () -> x.broken(row, column, is), () -> model.broken(row, column, is));
        }
    }

    private void goOn(String when) {
        int beats = next(3) == 0 ? near(1, 300) : near(1, 12);
        if (next(3) == 0) {
            same(when + "start", () -> x.start(), () -> model.start());
        } else {
            same(when + "beat", () -> x.beat(beats), () -> model.beat(beats));
        }
    }

    private void look(String when) {
        int row = near(0, Math.max(0, model.mesh(14) - 1));
        int column = near(0, Math.max(0, model.mesh(15) - 1));
        int more = next(2) == 0 ? near(-3, 3) : near(-999, 999);
        switch (next(5)) {
            case 0:
                same(when + "bend", () -> x.bend(row, column, more), () -> model.bend(row, column, more));
                break;
            case 1:
                same(when + "result", () -> x.result(row, column), () -> model.result(row, column));
                break;
            default:
                same(when + "check", () -> x.check(), () -> model.check());
                break;
        }
    }

    private void ask(String when) {
        int row = near(0, 4);
        int column = near(0, 4);
        int what = near(0, 3);
        int ofMesh = near(0, 15);
        switch (next(4)) {
            case 0:
                same(when + "mesh", () -> x.mesh(ofMesh), () -> model.mesh(ofMesh));
                break;
            case 1:
                same(when + "ofCell", () -> x.ofCell(row, column, what), () -> model.ofCell(row, column, what));
                break;
            case 2:
                same(when + "row", () -> x.row(row), () -> model.row(row));
                break;
            default:
                same(when + "plain", () -> x.plain(row, column), () -> model.plain(row, column));
                break;
        }
    }

    private void askWhatWouldBe(String when) {
        int rows = near(1, 31);
        int columns = near(1, 31);
        int what = near(0, 4);
        switch (next(3)) {
            case 0:
                same(when + "beats", () -> x.beats(rows, columns), () -> model.beats(rows, columns));
                break;
            case 1:
                same(when + "best", () -> x.best(what), () -> model.best(what));
                break;
            default:
                same(when + "saved", () -> x.saved(), () -> model.saved());
                break;
        }
    }

    private static void same(String what, Call of, Call want) {
        Due.same(what, answerOf(of), answerOf(want));
    }

    private static Object answerOf(Call call) {
        try {
            return call.answer();
        } catch (Model.Refusal e) {
            return "throws " + e.getMessage();
        } catch (RuntimeException e) {
            return "throws " + e.getClass().getName();
        }
    }
}
