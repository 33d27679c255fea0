/** The edges of part 1 of the document, and of the promises that tell a work: 1 to 6, and 16. */
final class WorkBoundaries {
    private static final String WORK = "1. The work";

    private WorkBoundaries() {
    }

    static void run() {
        Due.each(
                WorkBoundaries::shapeAtFirst,
                WorkBoundaries::everyShape,
                WorkBoundaries::placesOfOperands,
                WorkBoundaries::operandsAtFirst,
                WorkBoundaries::outermostOperands,
                WorkBoundaries::kindAtFirst,
                WorkBoundaries::firstAndLastTerm,
                WorkBoundaries::outermostProducts,
                WorkBoundaries::outermostLeast,
                WorkBoundaries::outermostGreatest,
                WorkBoundaries::notCheckedAtFirst,
                WorkBoundaries::rowOfSums,
                WorkBoundaries::columnOfSums,
                WorkBoundaries::nothingSkippedByOtherKinds,
                WorkBoundaries::oneOperandIsEnough,
                WorkBoundaries::sumsOfNoughtAreNoNoughts,
                WorkBoundaries::lastTermIsLeft,
                WorkBoundaries::stepsOneByOne,
                WorkBoundaries::newCellsAreWhole,
                WorkBoundaries::shapeMakesNoughts,
                WorkBoundaries::shapeCounts,
                WorkBoundaries::shapeBounds,
                WorkBoundaries::leftBefore,
                WorkBoundaries::leftPlaces,
                WorkBoundaries::leftValues,
                WorkBoundaries::topBefore,
                WorkBoundaries::topPlaces,
                WorkBoundaries::topValues,
                WorkBoundaries::kindBefore,
                WorkBoundaries::kindEndsChecked,
                WorkBoundaries::kindBounds,
                WorkBoundaries::checkedBefore,
                WorkBoundaries::checkedBounds,
                WorkBoundaries::plainOfWhatIsTold,
                WorkBoundaries::plainPlaces);
    }

    // ---- 1. The work

    private static void shapeAtFirst() {
        Due.by(WORK, "2, 2, 2 at first");
        Meshes.dueMesh("new", new Pulsemesh(), 2, 2, 2);
        Meshes.duePlain("new", new Pulsemesh(), new int[][] {{0, 0}, {0, 0}});
    }

    private static void everyShape() {
        Due.by(WORK, "SHAPE: r, k and c (r and c 1 to 8, k 1 to 6;");
        for (int r = 1; r <= 8; r++) {
            Pulsemesh x = new Pulsemesh();
            for (int shape = 0; shape < 48; shape++) {
                x.shape(r, shape % 6 + 1, shape / 6 + 1);
                Meshes.dueMesh("shape", x, r, shape % 6 + 1, shape / 6 + 1);
            }
        }
    }

    private static void placesOfOperands() {
        Due.by(WORK, "LEFT operands A of r rows and k columns, TOP operands B of k rows and c columns");
        Pulsemesh x = Meshes.shaped(8, 6, 8);
        for (int t = 0; t < 6; t++) {
            for (int line = 0; line < 8; line++) {
                x.left(line, t, line - t);
                x.top(t, line, t + line - 9);
            }
        }
        for (int t = 0; t < 6; t++) {
            for (int line = 0; line < 8; line++) {
                Due.same("A(" + line + ", " + t + ")", x.left(line, t, 0), line - t);
                Due.same("B(" + t + ", " + line + ")", x.top(t, line, 0), t + line - 9);
            }
        }
    }

    private static void operandsAtFirst() {
        Due.by(WORK, "each -9 to 9 (0 at first)");
        Pulsemesh x = new Pulsemesh();
        for (int place = 0; place < 4; place++) {
            Due.same("A ahead", x.left(place / 2, place % 2, 1), 0);
            Due.same("B ahead", x.top(place / 2, place % 2, 1), 0);
        }
    }

    private static void outermostOperands() {
        Due.by(WORK, "each -9 to 9");
        Pulsemesh x = Meshes.shaped(1, 1, 1);
        for (int value = -9; value <= 9; value++) {
            x.left(0, 0, value);
            x.top(0, 0, -value);
            Due.same("A as told", x.left(0, 0, value), value);
            Due.same("B as told", x.top(0, 0, -value), -value);
            Due.same("their product", x.plain(0, 0), -value * value);
        }
    }

    private static void kindAtFirst() {
        Due.by(WORK, "KIND: 0 (at first)");
        Pulsemesh x = new Pulsemesh();
        Due.same("mesh(3)", x.mesh(3), 0);
        Due.same("kind ahead", x.kind(2), 0);
    }

    private static void firstAndLastTerm() {
        Due.by(WORK, "over all t of 0 to k less 1, of A(i, t) and B(t, j)");
        for (int k = 1; k <= 6; k++) {
            for (int t = 0; t < k; t++) {
                dueOneTerm(k, t);
            }
        }
    }

    /** Of all t just that one makes the answer, by each kind, told and done. */
    private static void dueOneTerm(int k, int t) {
        String when = "k of " + k + ", t of " + t;
        Pulsemesh x = Meshes.shaped(1, k, 1);
        x.left(0, t, 3);
        x.top(t, 0, 7);
        dueDone(when, x, 21);
        x.kind(2);
        Meshes.tellAll(x, -5, 9);
        x.left(0, t, 3);
        dueDone(when, x, 3);
        x.kind(1);
        x.left(0, t, -9);
        dueDone(when, x, 0);
    }

    private static void dueDone(String when, Pulsemesh x, int want) {
        Due.same(when + ", kind " + x.mesh(3) + ": plain", x.plain(0, 0), want);
        Meshes.runThrough(x);
        Meshes.dueResults(when + ", kind " + x.mesh(3), x, new int[][] {{want}});
    }

    private static void outermostProducts() {
        Due.by(WORK, "by KIND 0 the sum of their products");
        dueAllAlike(0, 6, 9, 9, 486);
        dueAllAlike(0, 6, 9, -9, -486);
        dueAllAlike(0, 1, -9, -9, 81);
        dueAllAlike(0, 1, -9, 9, -81);
        dueAllAlike(0, 6, 0, 9, 0);
    }

    private static void outermostLeast() {
        Due.by(WORK, "by 1 the least of their sums");
        dueAllAlike(1, 6, 9, 9, 18);
        dueAllAlike(1, 6, -9, -9, -18);
        dueAllAlike(1, 1, 9, 9, 18);
        dueAllAlike(1, 1, -9, -9, -18);
        dueAllAlike(1, 6, -9, 9, 0);
    }

    private static void outermostGreatest() {
        Due.by(WORK, "by 2 the greatest of the lesser one of both");
        dueAllAlike(2, 6, 9, 9, 9);
        dueAllAlike(2, 6, -9, -9, -9);
        dueAllAlike(2, 6, 9, -9, -9);
        dueAllAlike(2, 6, -9, 9, -9);
        dueAllAlike(2, 1, -9, -8, -9);
    }

    private static void dueAllAlike(int kind, int k, int ofLeft, int ofTop, int want) {
        Pulsemesh x = Meshes.shaped(1, k, 1);
        x.kind(kind);
        Meshes.tellAll(x, ofLeft, ofTop);
        dueDone("all " + ofLeft + " and " + ofTop + ", k of " + k, x, want);
    }

    private static void notCheckedAtFirst() {
        Due.by(WORK, "A WORK can be CHECKED (only of KIND 0; not at first)");
        Pulsemesh x = Meshes.twoByTwo();
        Due.same("mesh(4)", x.mesh(4), 0);
        Meshes.runThrough(x);
        Meshes.dueResults("without sums", x, new int[][] {{19, 22}, {43, 50}});
        Due.same("checked ahead", x.checked(true), false);
    }

    private static void rowOfSums() {
        Due.by(WORK, "then A has a row more (the number r), in each column the sum of the others");
        Pulsemesh x = Meshes.shaped(8, 1, 1);
        x.checked(true);
        x.top(0, 0, 9);
        for (int i = 0; i < 8; i++) {
            Due.same("sum of " + i + " nines, times nine", x.plain(8, 0), 81 * i);
            x.left(i, 0, 9);
        }
        Due.same("sum of all", x.plain(8, 0), 648);
        Meshes.runThrough(x);
        Due.same("done", x.result(8, 0), 648);
        Pulsemesh smallest = Meshes.shaped(1, 2, 1);
        smallest.checked(true);
        Meshes.tellLeft(smallest, new int[][] {{-9, 4}});
        Meshes.tellTop(smallest, new int[][] {{9}, {1}});
        Due.same("the sum of one row is that row", smallest.plain(1, 0), -77);
    }

    private static void columnOfSums() {
        Due.by(WORK, "and B a column more (the number c), in each row the sum of the others");
        Pulsemesh x = Meshes.shaped(1, 1, 8);
        x.checked(true);
        x.left(0, 0, 9);
        for (int j = 0; j < 8; j++) {
            Due.same("sum of " + j + " nines, times nine", x.plain(0, 8), 81 * j);
            x.top(0, j, 9);
        }
        Meshes.runThrough(x);
        Due.same("done", x.result(0, 8), 648);
        Pulsemesh largest = Meshes.shaped(8, 6, 8);
        largest.checked(true);
        Meshes.tellAll(largest, -9, 9);
        // 6 times 8 nines by 8 nines.
        Due.same("the sum of all sums", largest.plain(8, 8), -31104);
        Meshes.runThrough(largest);
        Due.same("done with all", largest.result(8, 8), -31104);
        Due.same("and checked", largest.check(), 0);
    }

    private static void nothingSkippedByOtherKinds() {
        Due.by(WORK, "SKIPPED (by KIND 0 alone)");
        for (int kind = 1; kind <= 2; kind++) {
            Pulsemesh x = Meshes.shaped(2, 6, 2);
            x.kind(kind);
            Due.same("skipped by kind " + kind, x.mesh(6), 0);
            Due.same("steps by kind " + kind, x.mesh(5), 6);
            Due.same("beats by kind " + kind, x.start(), 9);
            x.kind(0);
            Due.same("skipped by kind 0", x.mesh(6), 31);
        }
    }

    private static void oneOperandIsEnough() {
        Due.by(WORK, "is each t for which all A(i, t) or all B(t, j) are 0");
        for (int line = 0; line < 8; line++) {
            Pulsemesh x = Meshes.shaped(8, 3, 8);
            Meshes.tellAll(x, 1, 1);
            Due.same("none is skipped", x.mesh(6), 0);
            for (int i = 0; i < 8; i++) {
                x.left(i, 1, i == line ? -1 : 0);
                x.top(0, i, i == line ? -1 : 0);
            }
            Due.same("one operand is left in line " + line, x.mesh(6), 0);
            x.left(line, 1, 0);
            Due.same("none is left in A", x.mesh(6), 2);
            x.top(0, line, 0);
            Due.same("none is left in B", x.mesh(6), 3);
        }
    }

    private static void sumsOfNoughtAreNoNoughts() {
        Due.by(WORK, "all A(i, t) or all B(t, j) are 0");
        Pulsemesh x = Meshes.shaped(2, 2, 2);
        x.checked(true);
        Meshes.tellLeft(x, new int[][] {{9, 1}, {-9, 1}});
        Meshes.tellTop(x, new int[][] {{1, 1}, {-7, 7}});
        Due.same("the sums alone are 0", x.mesh(6), 0);
        Meshes.runThrough(x);
        Meshes.dueResults("with sums of 0", x, new int[][] {{2, 16, 18}, {-16, -2, -18}, {-14, 14, 0}});
    }

    private static void lastTermIsLeft() {
        Due.by(WORK, "but not the last t, if all would be");
        for (int k = 1; k <= 6; k++) {
            Pulsemesh x = Meshes.shaped(2, k, 2);
            Due.same("skipped of " + k + " noughts", x.mesh(6), (1 << k - 1) - 1);
            Meshes.tellAll(x, 9, 0);
            Due.same("skipped of " + k + " noughts of B", x.mesh(6), (1 << k - 1) - 1);
            // 2 rows, 2 columns and one step less 1.
            Due.same("beats of one step", x.start(), 4);
            x.beat(4);
            Meshes.dueResults("noughts", x, new int[][] {{0, 0}, {0, 0}});
            Due.same("each cell took one thing", x.ofCell(1, 1, 1), 1);
            x.top(0, 0, 5);
            Due.same("if the first is none, the others are all skipped", x.mesh(6), (1 << k) - 2);
        }
    }

    private static void stepsOneByOne() {
        Due.by(WORK, "STEPS: how many t are not.");
        Pulsemesh x = Meshes.shaped(1, 6, 1);
        Due.same("steps of noughts", x.mesh(5), 1);
        for (int t = 0; t < 6; t++) {
            x.left(0, t, 1);
            x.top(t, 0, 1);
            Due.same("steps up to " + t, x.mesh(5), t + 1);
            Due.same("skipped above " + t, x.mesh(6), 63 - ((2 << t) - 1));
        }
    }

    // ---- Promises 1 to 6

    private static void newCellsAreWhole() {
        Due.by("Promise 1", "Creates a mesh of whole cells.");
        Pulsemesh x = new Pulsemesh();
        Meshes.dueRows("new", x, ".....", ".....", ".....", ".....", ".....");
        Due.same("broken", x.mesh(7), 0);
        Due.same("known", x.mesh(8), 0);
        Due.same("found by a test", x.test(), 0);
    }

    private static void shapeMakesNoughts() {
        Due.by("Promise 2", "all operands are 0 then");
        for (int smaller = 0; smaller < 2; smaller++) {
            Pulsemesh x = Meshes.shaped(8, 6, 8);
            Meshes.tellAll(x, 9, -9);
            if (smaller == 1) {
                x.shape(1, 1, 1);
            }
            x.shape(8, 6, 8);
            for (int t = 0; t < 6; t++) {
                for (int line = 0; line < 8; line++) {
                    Due.same("A ahead", x.left(line, t, 0), 0);
                    Due.same("B ahead", x.top(t, line, 0), 0);
                }
            }
        }
    }

    private static void shapeCounts() {
        Due.by("Promise 2", "Returns how many operands were not 0 ahead (without the sums of CHECKED).");
        Pulsemesh x = new Pulsemesh();
        Due.same("none at first", x.shape(8, 6, 8), 0);
        Meshes.tellAll(x, 9, -9);
        x.checked(true);
        Due.same("all of the largest, without their sums", x.shape(8, 6, 8), 96);
        Due.same("none then", x.shape(8, 6, 8), 0);
        x.left(7, 5, -9);
        Due.same("the last one of A", x.shape(8, 6, 8), 1);
        x.top(5, 7, 1);
        x.top(0, 0, 1);
        x.top(0, 0, 0);
        Due.same("the last one of B, not the one that is 0 again", x.shape(1, 1, 1), 1);
    }

    private static void shapeBounds() {
        Due.by("Promise 2", "Throws `IllegalArgumentException` if r or c is not 1 to 8, or k not 1 to 6");
        Pulsemesh x = Meshes.twoByTwo();
        for (int bad : new int[] {0, 9, -1, Meshes.LEAST, Meshes.MOST}) {
            Due.refused(x, "r of " + bad, Meshes.NO_VALUE, () -> x.shape(bad, 1, 1));
            Due.refused(x, "c of " + bad, Meshes.NO_VALUE, () -> x.shape(1, 1, bad));
        }
        for (int bad : new int[] {0, 7, 8, -1, Meshes.LEAST, Meshes.MOST}) {
            Due.refused(x, "k of " + bad, Meshes.NO_VALUE, () -> x.shape(1, bad, 1));
        }
        Due.same("the operands are there still", x.shape(8, 6, 8), 8);
        Due.same("the smallest one", x.shape(1, 1, 1), 0);
    }

    private static void leftBefore() {
        Due.by("Promise 3", "Returns that before.");
        Pulsemesh x = Meshes.shaped(8, 6, 1);
        Due.same("at first", x.left(7, 5, -9), 0);
        Due.same("then", x.left(7, 5, 9), -9);
        Due.same("and then", x.left(7, 5, 9), 9);
        Due.same("beside it", x.left(6, 5, 9), 0);
    }

    private static void leftPlaces() {
        Due.by("Promise 3", "Throws `IndexOutOfBoundsException` if row is not 0 to r less 1, or column not 0 to"
                + " k less 1");
        for (int[] shape : new int[][] {{1, 1, 8}, {8, 6, 1}, {3, 5, 8}, {6, 2, 8}}) {
            Pulsemesh x = Meshes.shaped(shape[0], shape[1], shape[2]);
            x.checked(true);
            Due.same("the last place", x.left(shape[0] - 1, shape[1] - 1, 1), 0);
            for (int bad : new int[] {-1, shape[0], Meshes.LEAST, Meshes.MOST}) {
                Due.refused(x, "row " + bad, Meshes.NO_PLACE, () -> x.left(bad, 0, 1));
            }
            for (int bad : new int[] {-1, shape[1], Meshes.LEAST, Meshes.MOST}) {
                Due.refused(x, "column " + bad, Meshes.NO_PLACE, () -> x.left(0, bad, 1));
            }
        }
    }

    private static void leftValues() {
        Due.by("Promise 3", "Throws `IllegalArgumentException` if value is not -9 to 9");
        Pulsemesh x = Meshes.twoByTwo();
        for (int bad : new int[] {-10, 10, Meshes.LEAST, Meshes.MOST}) {
            Due.refused(x, "value " + bad, Meshes.NO_VALUE, () -> x.left(1, 1, bad));
        }
        Due.same("-9", x.left(1, 1, -9), 4);
        Due.same("9", x.left(1, 1, 9), -9);
    }

    private static void topBefore() {
        Due.by("Promise 4", "Returns that before.");
        Pulsemesh x = Meshes.shaped(1, 6, 8);
        Due.same("at first", x.top(5, 7, -9), 0);
        Due.same("then", x.top(5, 7, 9), -9);
        Due.same("and then", x.top(5, 7, 9), 9);
        Due.same("beside it", x.top(5, 6, 9), 0);
    }

    private static void topPlaces() {
        Due.by("Promise 4", "Throws `IndexOutOfBoundsException` if row is not 0 to k less 1, or column not 0 to"
                + " c less 1");
        for (int[] shape : new int[][] {{8, 1, 1}, {1, 6, 8}, {8, 5, 3}, {8, 2, 6}}) {
            Pulsemesh x = Meshes.shaped(shape[0], shape[1], shape[2]);
            x.checked(true);
            Due.same("the last place", x.top(shape[1] - 1, shape[2] - 1, 1), 0);
            for (int bad : new int[] {-1, shape[1], Meshes.LEAST, Meshes.MOST}) {
                Due.refused(x, "row " + bad, Meshes.NO_PLACE, () -> x.top(bad, 0, 1));
            }
            for (int bad : new int[] {-1, shape[2], Meshes.LEAST, Meshes.MOST}) {
                Due.refused(x, "column " + bad, Meshes.NO_PLACE, () -> x.top(0, bad, 1));
            }
        }
    }

    private static void topValues() {
        Due.by("Promise 4", "Throws `IllegalArgumentException` if value is not -9 to 9");
        Pulsemesh x = Meshes.twoByTwo();
        for (int bad : new int[] {-10, 10, Meshes.LEAST, Meshes.MOST}) {
            Due.refused(x, "value " + bad, Meshes.NO_VALUE, () -> x.top(1, 1, bad));
        }
        Due.same("-9", x.top(1, 1, -9), 8);
        Due.same("9", x.top(1, 1, 9), -9);
    }

    private static void kindBefore() {
        Due.by("Promise 5", "Returns that before.");
        Pulsemesh x = new Pulsemesh();
        for (int call = 0; call < 9; call++) {
            int before = x.mesh(3);
            Due.same("kind ahead", x.kind(call * 2 / 3 % 3), before);
            Due.same("kind then", x.mesh(3), call * 2 / 3 % 3);
        }
    }

    private static void kindEndsChecked() {
        Due.by("Promise 5", "by 1 and 2 the work is not CHECKED then");
        for (int kind = 0; kind <= 2; kind++) {
            Pulsemesh x = Meshes.twoByTwo();
            x.checked(true);
            x.kind(kind);
            Due.same("checked after kind " + kind, x.mesh(4), kind == 0 ? 1 : 0);
            x.kind(0);
            Due.same("and by kind 0 again", x.mesh(4), kind == 0 ? 1 : 0);
        }
    }

    private static void kindBounds() {
        Due.by("Promise 5", "Throws `IllegalArgumentException` if kind is not 0 to 2");
        Pulsemesh x = Meshes.twoByTwo();
        x.checked(true);
        for (int bad : new int[] {-1, 3, Meshes.LEAST, Meshes.MOST}) {
            Due.refused(x, "kind " + bad, Meshes.NO_VALUE, () -> x.kind(bad));
        }
        Due.same("it is checked still", x.mesh(4), 1);
        Due.same("kind 2", x.kind(2), 0);
        Due.same("kind 0", x.kind(0), 2);
    }

    private static void checkedBefore() {
        Due.by("Promise 6", "Returns whether it was.");
        Pulsemesh x = new Pulsemesh();
        boolean[] told = {false, true, true, false, false, true};
        for (int call = 0; call < told.length; call++) {
            Due.same("call " + call, x.checked(told[call]), call > 0 && told[call - 1]);
            Due.same("then", x.mesh(4), told[call] ? 1 : 0);
        }
    }

    private static void checkedBounds() {
        Due.by("Promise 6", "Throws `IllegalStateException` if it would be, and KIND is not 0");
        for (int kind = 1; kind <= 2; kind++) {
            Pulsemesh x = Meshes.twoByTwo();
            x.kind(kind);
            Due.refused(x, "checked by kind " + kind, Meshes.NOT_NOW, () -> x.checked(true));
            Due.same("not checked by kind " + kind, Meshes.answerOf(() -> x.checked(false)), false);
            x.kind(0);
            Due.same("by kind 0", x.checked(true), false);
        }
    }

    // ---- Promise 16

    private static void plainOfWhatIsTold() {
        Due.by("Promise 16", "Returns PLAIN of the operands as they are told.");
        Pulsemesh x = Meshes.twoByTwo();
        Meshes.breakAll(x);
        x.start();
        x.beat(1);
        x.left(0, 0, -9);
        Meshes.duePlain("while one runs", x, new int[][] {{-31, -38}, {43, 50}});
        x.kind(1);
        Meshes.duePlain("by another kind", x, new int[][] {{-4, -3}, {8, 9}});
        Meshes.runOut(x);
        Meshes.duePlain("once it ended", x, new int[][] {{-4, -3}, {8, 9}});
    }

    private static void plainPlaces() {
        Due.by("Promise 16",
                "Throws `IndexOutOfBoundsException` if there is no such row (the one more, if CHECKED, too), or"
                + " column");
        for (int[] shape : new int[][] {{1, 6, 8}, {8, 6, 1}, {8, 1, 8}, {3, 2, 5}}) {
            Pulsemesh x = Meshes.shaped(shape[0], shape[1], shape[2]);
            for (int more = 0; more <= 1; more++) {
                x.checked(more == 1);
                int rows = shape[0] + more;
                int columns = shape[2] + more;
                Due.same("the last place", Meshes.answerOf(() -> x.plain(rows - 1, columns - 1)), 0);
                for (int bad : new int[] {-1, rows, Meshes.LEAST, Meshes.MOST}) {
                    Due.refused(x, "row " + bad, Meshes.NO_PLACE, () -> x.plain(bad, 0));
                }
                for (int bad : new int[] {-1, columns, Meshes.LEAST, Meshes.MOST}) {
                    Due.refused(x, "column " + bad, Meshes.NO_PLACE, () -> x.plain(0, bad));
                }
            }
        }
    }
}
