/** Each promise of the document by itself: ordinary inputs, the edges that it names, and wrong inputs. */
public final class PromisesTest {
    public static void main(String[] args) {
        promise1NewObject();
        promise2Shape();
        promise3Left();
        promise4Top();
        promise5Kind();
        promise6Checked();
        promise7Broken();
        promise8Test();
        promise9Start();
        promise10Beat();
        promise10Askew();
        promise10BrokenCells();
        promise11Bend();
        promise12Check();
        promise12Mending();
        promise13Mesh();
        promise13Skipped();
        promise14OfCell();
        promise15Result();
        promise16Plain();
        promise17Row();
        promise18Beats();
        promise19Best();
        promise20Saved();
        promise21IsSound();
        promise22Digest();
        Due.end("PromisesTest");
    }

    // ---- the promises

    private static void promise1NewObject() {
        Pulsemesh x = new Pulsemesh();
        Meshes.dueMesh("new", x, 2, 2, 2, 0, 0, 1, 1, 0, 0, 0, 0, 0, 0, -1, 0, 0);
        for (int cell = 0; cell < 25; cell++) {
            int row = cell / 5;
            int column = cell % 5;
            Due.same("new: state of cell " + cell, x.ofCell(row, column, 0), 0);
            Due.same("new: use of cell " + cell, x.ofCell(row, column, 1), 0);
            Due.same("new: sum of cell " + cell, x.ofCell(row, column, 2), 0);
            Due.same("new: step of cell " + cell, x.ofCell(row, column, 3), -1);
        }
        Meshes.dueRows("new", x, ".....", ".....", ".....", ".....", ".....");
        Meshes.dueBest("new", x, 4, 3, 3, 1, 4);
        Meshes.duePlain("new", x, new int[][] {{0, 0}, {0, 0}});
        Due.same("new: saved()", x.saved(), 1);
        Due.same("new: isSound()", x.isSound(), true);
        Due.refused(x, "new: result", Meshes.NO_PLACE, () -> x.result(0, 0));
        Pulsemesh other = Meshes.twoByTwo();
        other.broken(4, 4, true);
        Due.same("an object knows nothing of another one", x.digest(), new Pulsemesh().digest());
    }

    private static void promise2Shape() {
        Pulsemesh x = new Pulsemesh();
        Due.same("shape of noughts", x.shape(8, 6, 8), 0);
        x.left(7, 5, -9);
        x.left(0, 0, 1);
        x.left(1, 0, 1);
        x.left(1, 0, 0);
        x.top(5, 7, 9);
        x.top(3, 0, -2);
        x.checked(true);
        Due.same("shape tells how many were not 0, without the sums", x.shape(8, 6, 8), 4);
        Due.same("operands are 0 then, of A", x.left(7, 5, 0), 0);
        Due.same("operands are 0 then, of B", x.top(5, 7, 0), 0);
        Due.same("it stays checked", x.mesh(4), 1);
        Due.same("shape(1, 1, 1)", x.shape(1, 1, 1), 0);
        Meshes.dueMesh("smallest shape", x, 1, 1, 1);
        x.shape(3, 4, 5);
        Meshes.dueMesh("r, k and c in this order", x, 3, 4, 5);
        x.kind(2);
        x.shape(2, 1, 2);
        Due.same("the kind stays", x.mesh(3), 2);
        Due.refused(x, "r of 0", Meshes.NO_VALUE, () -> x.shape(0, 1, 1));
        Due.refused(x, "r of 9", Meshes.NO_VALUE, () -> x.shape(9, 1, 1));
        Due.refused(x, "k of 0", Meshes.NO_VALUE, () -> x.shape(1, 0, 1));
        Due.refused(x, "k of 7", Meshes.NO_VALUE, () -> x.shape(1, 7, 1));
        Due.refused(x, "c of 0", Meshes.NO_VALUE, () -> x.shape(1, 1, 0));
        Due.refused(x, "c of 9", Meshes.NO_VALUE, () -> x.shape(1, 1, 9));
        Due.refused(x, "the least of all", Meshes.NO_VALUE, () -> x.shape(Integer.MIN_VALUE, -1, -1));
        Due.refused(x, "the greatest of all", Meshes.NO_VALUE, () -> x.shape(1, Integer.MAX_VALUE, 1));
    }

    private static void promise3Left() {
        Pulsemesh x = Meshes.shaped(3, 2, 4);
        Due.same("left ahead", x.left(2, 1, 9), 0);
        Due.same("left then", x.left(2, 1, -9), 9);
        Due.same("left of -9", x.left(2, 1, 0), -9);
        Due.same("B has another one there", x.top(1, 3, 5), 0);
        Due.same("A has not that of B", x.left(1, 1, 0), 0);
        Due.refused(x, "left of row -1", Meshes.NO_PLACE, () -> x.left(-1, 0, 0));
        Due.refused(x, "left of row r", Meshes.NO_PLACE, () -> x.left(3, 0, 0));
        Due.refused(x, "left of column -1", Meshes.NO_PLACE, () -> x.left(0, -1, 0));
        Due.refused(x, "left of column k", Meshes.NO_PLACE, () -> x.left(0, 2, 0));
        Due.refused(x, "left of 10", Meshes.NO_VALUE, () -> x.left(0, 0, 10));
        Due.refused(x, "left of -10", Meshes.NO_VALUE, () -> x.left(0, 0, -10));
        Due.refused(x, "left of both: the place is named first", Meshes.NO_PLACE, () -> x.left(3, 0, 10));
        Due.refused(x, "left far out", Meshes.NO_PLACE, () -> x.left(Integer.MAX_VALUE, Integer.MIN_VALUE, 0));
        x.checked(true);
        Due.refused(x, "left of the row of sums", Meshes.NO_PLACE, () -> x.left(3, 0, 0));
    }

    private static void promise4Top() {
        Pulsemesh x = Meshes.shaped(4, 2, 3);
        Due.same("top ahead", x.top(1, 2, 9), 0);
        Due.same("top then", x.top(1, 2, -9), 9);
        Due.same("top of -9", x.top(1, 2, 0), -9);
        Due.same("A has another one there", x.left(1, 1, 5), 0);
        Due.same("B has not that of A", x.top(1, 1, 0), 0);
        Due.refused(x, "top of row -1", Meshes.NO_PLACE, () -> x.top(-1, 0, 0));
        Due.refused(x, "top of row k", Meshes.NO_PLACE, () -> x.top(2, 0, 0));
        Due.refused(x, "top of column -1", Meshes.NO_PLACE, () -> x.top(0, -1, 0));
        Due.refused(x, "top of column c", Meshes.NO_PLACE, () -> x.top(0, 3, 0));
        Due.refused(x, "top of 10", Meshes.NO_VALUE, () -> x.top(0, 0, 10));
        Due.refused(x, "top of -10", Meshes.NO_VALUE, () -> x.top(0, 0, -10));
        Due.refused(x, "top of both: the place is named first", Meshes.NO_PLACE, () -> x.top(0, 3, -10));
        Due.refused(x, "top far out", Meshes.NO_PLACE, () -> x.top(Integer.MIN_VALUE, Integer.MAX_VALUE, 0));
        x.checked(true);
        Due.refused(x, "top of the column of sums", Meshes.NO_PLACE, () -> x.top(0, 3, 0));
    }

    private static void promise5Kind() {
        Pulsemesh x = new Pulsemesh();
        x.checked(true);
        Due.same("kind(0)", x.kind(0), 0);
        Due.same("by 0 it stays checked", x.mesh(4), 1);
        Due.same("kind(1)", x.kind(1), 0);
        Due.same("by 1 it is not checked", x.mesh(4), 0);
        Due.same("kind(2)", x.kind(2), 1);
        Due.same("kind(0) again", x.kind(0), 2);
        Due.same("it is not checked by itself", x.mesh(4), 0);
        x.checked(true);
        x.kind(2);
        Due.same("by 2 it is not checked", x.mesh(4), 0);
        Due.refused(x, "kind(-1)", Meshes.NO_VALUE, () -> x.kind(-1));
        Due.refused(x, "kind(3)", Meshes.NO_VALUE, () -> x.kind(3));
    }

    private static void promise6Checked() {
        Pulsemesh x = Meshes.twoByTwo();
        Due.same("checked(true)", x.checked(true), false);
        Due.same("checked(true) again", x.checked(true), true);
        Due.same("checked(false)", x.checked(false), true);
        Due.same("checked(false) again", x.checked(false), false);
        for (int kind = 1; kind <= 2; kind++) {
            x.kind(kind);
            Due.refused(x, "checked by kind " + kind, Meshes.NOT_NOW, () -> x.checked(true));
            Due.same("not checked by kind " + kind, x.checked(false), false);
        }
        int[][] wants = {{19, 22, 41}, {43, 50, 93}, {62, 72, 134}};
        Meshes.dueResults("checked", Meshes.twoByTwoDone(true), wants);
    }

    private static void promise7Broken() {
        Pulsemesh x = new Pulsemesh();
        Due.same("broken(0, 0)", x.broken(0, 0, true), 1);
        Due.same("broken(0, 0) again", x.broken(0, 0, true), 1);
        Due.same("broken(4, 4)", x.broken(4, 4, true), 2);
        Due.same("a whole one", x.broken(1, 0, false), 2);
        Due.same("whole again", x.broken(0, 0, false), 1);
        x.test();
        x.broken(4, 4, true);
        Due.same("it is known still", x.ofCell(4, 4, 0), 2);
        x.broken(4, 4, false);
        x.broken(4, 4, true);
        Due.same("it was whole in between, so it is not known", x.ofCell(4, 4, 0), 1);
        Due.refused(x, "row -1", Meshes.NO_PLACE, () -> x.broken(-1, 0, true));
        Due.refused(x, "row 5", Meshes.NO_PLACE, () -> x.broken(5, 0, true));
        Due.refused(x, "column -1", Meshes.NO_PLACE, () -> x.broken(0, -1, false));
        Due.refused(x, "column 5", Meshes.NO_PLACE, () -> x.broken(0, 5, false));
        Meshes.breakAll(x);
        Due.same("all are broken", x.mesh(7), 25);
    }

    private static void promise8Test() {
        Pulsemesh x = Meshes.twoByTwo();
        Due.same("test of whole cells", x.test(), 0);
        x.broken(2, 3, true);
        x.broken(3, 2, true);
        Due.same("test of two", x.test(), 2);
        Due.same("both are known", x.test(), 0);
        x.broken(0, 4, true);
        Due.same("test of one more", x.test(), 1);
        Due.same("known", x.mesh(8), 3);
        x.start();
        Due.refused(x, "test while a work runs", Meshes.NOT_NOW, () -> x.test());
        x.beat(300);
        Due.same("test once it ended", x.test(), 0);
    }

    private static void promise9Start() {
        Pulsemesh x = Meshes.twoByTwo();
        Due.same("start()", x.start(), 5);
        Due.refused(x, "start while one runs", Meshes.NOT_NOW, () -> x.start());
        x.beat(5);
        Due.same("start once it ended", x.start(), 5);
        x.beat(5);
        x.checked(true);
        Due.same("start of a checked one", x.start(), 7);
        x.beat(7);
        Meshes.breakAll(x);
        Due.same("broken cells that are not known are taken", x.start(), 7);
        x.beat(7);
        x.test();
        Due.refused(x, "start without a layout", Meshes.NOT_NOW, () -> x.start());
        x.broken(3, 3, false);
        // 9 tiles of one cell, 2 steps: 1 + 1 + 2 - 1 beats each.
        Due.same("start on one cell", x.start(), 27);
        Meshes.dueRows("one cell", x, "xxxxx", "xxxxx", "xxxxx", "xxxox", "xxxxx");
    }

    private static void promise10Beat() {
        Pulsemesh x = Meshes.twoByTwo();
        Due.refused(x, "beat without a work", Meshes.NOT_NOW, () -> x.beat(1));
        Due.refused(x, "beat(0) without a work", Meshes.NO_VALUE, () -> x.beat(0));
        x.start();
        Due.refused(x, "beat(0)", Meshes.NO_VALUE, () -> x.beat(0));
        Due.refused(x, "beat(-1)", Meshes.NO_VALUE, () -> x.beat(-1));
        Due.refused(x, "beat(301)", Meshes.NO_VALUE, () -> x.beat(301));
        Due.same("beat(2)", x.beat(2), 3);
        Meshes.tellLeft(x, new int[][] {{-1, -1}, {-1, -1}});
        Meshes.tellTop(x, new int[][] {{-1, -1}, {-1, -1}});
        x.kind(1);
        x.shape(1, 1, 1);
        Due.same("beat(300)", x.beat(300), 0);
        Due.same("more than are left do nothing", x.mesh(9), 5);
        Meshes.dueResults("what is told meanwhile is for the next one", x, new int[][] {{19, 22}, {43, 50}});
        Due.refused(x, "beat once it ended", Meshes.NOT_NOW, () -> x.beat(1));
        Pulsemesh largest = Meshes.shaped(8, 6, 8);
        for (int t = 0; t < 6; t++) {
            largest.left(0, t, 9);
            largest.top(t, 7, 9);
        }
        largest.checked(true);
        Meshes.breakAll(largest);
        largest.test();
        largest.broken(4, 0, false);
        Due.same("81 tiles of 7 beats", largest.start(), 567);
        Due.same("300 of them", largest.beat(300), 267);
        Due.same("and the others", largest.beat(300), 0);
        Due.same("a sum of sums", largest.result(8, 8), 486);
        Due.same("a nought", largest.result(1, 1), 0);
    }

    /** A cell at i and j takes its first step in beat i + j; tiles of a 6 by 5 work lie on 5 by 5 cells. */
    private static void promise10Askew() {
        Pulsemesh x = Meshes.twoByTwo();
        x.start();
        int[][] stepsByBeat = {{0, -1, -1, -1}, {1, 0, 0, -1}, {-1, 1, 1, 0}, {-1, -1, -1, 1}};
        int[][] sumsByBeat = {{5, 0, 0, 0}, {19, 6, 15, 0}, {19, 22, 43, 18}, {19, 22, 43, 50}};
        for (int b = 0; b < 4; b++) {
            x.beat(1);
            for (int cell = 0; cell < 4; cell++) {
                String when = "beat " + b + ", cell " + cell;
                Due.same(when + ", step", x.ofCell(cell / 2, cell % 2, 3), stepsByBeat[b][cell]);
                Due.same(when + ", sum", x.ofCell(cell / 2, cell % 2, 2), sumsByBeat[b][cell]);
            }
        }
        Due.same("the last beat is left, to drain", x.mesh(12), 1);
        Due.refused(x, "results ahead of it", Meshes.NO_PLACE, () -> x.result(0, 0));
        x.beat(1);
        Meshes.dueResults("drained", x, new int[][] {{19, 22}, {43, 50}});
        Pulsemesh tiled = Meshes.shaped(2, 1, 2);
        Meshes.tellLeft(tiled, new int[][] {{2}, {3}});
        Meshes.tellTop(tiled, new int[][] {{5, 7}});
        Meshes.breakAll(tiled);
        tiled.test();
        tiled.broken(1, 1, false);
        tiled.broken(1, 3, false);
        // Columns 1 and 3 of row 1: a tile for each row of A, of 1 + 2 + 1 - 1 beats.
        Due.same("tiled start", tiled.start(), 6);
        tiled.beat(2);
        Due.same("first tile, first column", tiled.ofCell(1, 1, 2), 10);
        Due.same("first tile, second column", tiled.ofCell(1, 3, 2), 14);
        tiled.beat(1);
        Due.same("the next tile", tiled.mesh(13), 1);
        Due.same("its sums begin anew", tiled.ofCell(1, 3, 2), 0);
        tiled.beat(3);
        Meshes.dueResults("tiled", tiled, new int[][] {{10, 14}, {15, 21}});
    }

    private static void promise10BrokenCells() {
        Pulsemesh x = Meshes.twoByTwo();
        x.broken(0, 1, true);
        x.start();
        x.beat(300);
        Meshes.dueResults("two steps of a broken cell", x, new int[][] {{19, 24}, {43, 50}});
        x.start();
        x.broken(0, 1, false);
        x.broken(1, 1, true);
        x.beat(3);
        x.broken(1, 1, false);
        x.beat(2);
        Meshes.dueResults("broken for the first of two steps", x, new int[][] {{19, 22}, {43, 51}});
        x.broken(0, 0, true);
        x.kind(1);
        x.start();
        x.beat(300);
        // The least of 6 and 9: 999 to 6, 7 with the one more; then 7 against 9, and one more.
        Meshes.dueResults("a broken cell by kind 1", x, new int[][] {{8, 7}, {8, 9}});
        x.kind(2);
        x.start();
        x.beat(300);
        // The greatest of 1 and 2: -999 to 1, 2; then 2 against 2, 3.
        Meshes.dueResults("a broken cell by kind 2", x, new int[][] {{3, 2}, {4, 4}});
    }

    private static void promise11Bend() {
        Pulsemesh x = Meshes.twoByTwo();
        Due.refused(x, "bend without results", Meshes.NO_PLACE, () -> x.bend(0, 0, 1));
        x.start();
        Due.refused(x, "bend while a work runs", Meshes.NO_PLACE, () -> x.bend(0, 0, 1));
        x.beat(300);
        Due.same("bend by 3", x.bend(0, 1, 3), 25);
        Due.same("bend by -999", x.bend(0, 1, -999), -974);
        Due.same("bend by 999", x.bend(0, 1, 999), 25);
        Due.same("bend by 0", x.bend(0, 1, 0), 25);
        Meshes.dueResults("bent", x, new int[][] {{19, 25}, {43, 50}});
        Due.refused(x, "bend of row -1", Meshes.NO_PLACE, () -> x.bend(-1, 0, 1));
        Due.refused(x, "bend of row 2", Meshes.NO_PLACE, () -> x.bend(2, 0, 1));
        Due.refused(x, "bend of column -1", Meshes.NO_PLACE, () -> x.bend(0, -1, 1));
        Due.refused(x, "bend of column 2", Meshes.NO_PLACE, () -> x.bend(0, 2, 1));
        Due.refused(x, "bend by 1000", Meshes.NO_VALUE, () -> x.bend(0, 0, 1000));
        Due.refused(x, "bend by -1000", Meshes.NO_VALUE, () -> x.bend(0, 0, -1000));
        Due.refused(x, "bend of both: the place is named first", Meshes.NO_PLACE, () -> x.bend(2, 0, 1000));
        x.start();
        x.beat(300);
        Meshes.dueResults("the next ones are not bent", x, new int[][] {{19, 22}, {43, 50}});
    }

    private static void promise12Check() {
        Pulsemesh x = Meshes.twoByTwo();
        Due.refused(x, "check without results", Meshes.NOT_NOW, () -> x.check());
        x.checked(true);
        x.start();
        Due.refused(x, "check while it runs", Meshes.NOT_NOW, () -> x.check());
        x.beat(300);
        x.checked(false);
        Due.same("all right", x.check(), 0);
        x.checked(true);
        x.start();
        Due.refused(x, "check while the next one runs", Meshes.NOT_NOW, () -> x.check());
        x.checked(false);
        x.beat(300);
        Due.same("what was told at the start counts", x.check(), 0);
        x.start();
        x.beat(300);
        x.checked(true);
        Due.refused(x, "check of no checked work", Meshes.NOT_NOW, () -> x.check());
    }

    private static void promise12Mending() {
        int[][] right = {{19, 22, 41}, {43, 50, 93}, {62, 72, 134}};
        for (int cell = 0; cell < 9; cell++) {
            int row = cell / 3;
            int column = cell % 3;
            for (int more = -999; more <= 999; more += 333) {
                Pulsemesh x = Meshes.twoByTwoDone(true);
                x.bend(row, column, more);
                Due.same("one error of " + more + " in " + cell, x.check(), more == 0 ? 0 : 1);
                Meshes.dueResults("mended " + cell, x, right);
                Due.same("then it is right", x.check(), 0);
            }
        }
        dueBeyondMending("two in a row", new int[][] {{0, 0, 1}, {0, 1, 1}});
        dueBeyondMending("two that hide each other in their row", new int[][] {{0, 0, 1}, {0, 1, -1}});
        dueBeyondMending("two that hide each other in their column", new int[][] {{0, 1, 1}, {2, 1, 1}});
        dueBeyondMending("two askew", new int[][] {{0, 0, 1}, {1, 1, 1}});
        // Just one row is wrong, or one column, but not both; a value for one place would set two lines right.
        dueBeyondMending("one row, three columns", new int[][] {{0, 0, 1}, {0, 1, -1}, {0, 2, 1}});
        dueBeyondMending("three rows, one column", new int[][] {{0, 0, 1}, {1, 0, -1}, {2, 0, 1}});
        // Row 1 is wrong by 2, column 1 by 3 and the last column by 5.
        dueBeyondMending("unlike sums", new int[][] {{1, 0, 2}, {2, 0, 2}, {2, 1, 3}, {2, 2, 5}});
        Pulsemesh x = Meshes.twoByTwoDone(true);
        x.bend(0, 0, 4);
        x.bend(0, 1, -4);
        x.bend(1, 0, -4);
        x.bend(1, 1, 4);
        Due.same("four errors that hide each other", x.check(), 0);
    }

    private static void dueBeyondMending(String what, int[][] bends) {
        Pulsemesh x = Meshes.twoByTwoDone(true);
        for (int[] bend : bends) {
            x.bend(bend[0], bend[1], bend[2]);
        }
        long before = x.digest();
        Due.same(what, x.check(), 2);
        Due.same(what + ": nothing is mended", x.digest(), before);
    }

    private static void promise13Mesh() {
        Pulsemesh x = Meshes.shaped(3, 2, 6);
        x.left(0, 0, 1);
        x.top(0, 0, 1);
        x.checked(true);
        x.broken(4, 0, true);
        x.broken(4, 1, true);
        x.test();
        x.broken(4, 2, true);
        Meshes.dueMesh("told", x, 3, 2, 6, 0, 1, 1, 2, 3, 2, 0, 0, 0, 0, -1, 0, 0);
        // 4 rows on 4 rows, 7 columns on 4 columns: tiles of 4 by 4 and 4 by 3, 8 and 7 beats.
        Due.same("start of two tiles", x.start(), 15);
        Meshes.dueBest("two tiles", x, 15, 15, 15, 2, 15);
        Meshes.dueMesh("started", x, 3, 2, 6, 0, 1, 1, 2, 3, 2, 0, 1, 1, 15, 0, 0, 0);
        x.beat(7);
        Meshes.dueMesh("one beat ahead of the next tile", x, 3, 2, 6, 0, 1, 1, 2, 3, 2, 7, 1, 1, 8, 0, 0, 0);
        x.beat(1);
        Meshes.dueMesh("in the next tile", x, 3, 2, 6, 0, 1, 1, 2, 3, 2, 8, 1, 1, 7, 1, 0, 0);
        x.beat(6);
        Meshes.dueMesh("one beat ahead of the end", x, 3, 2, 6, 0, 1, 1, 2, 3, 2, 14, 1, 1, 1, 1, 0, 0);
        x.beat(1);
        Meshes.dueMesh("ended", x, 3, 2, 6, 0, 1, 1, 2, 3, 2, 15, 1, 0, 0, -1, 4, 7);
        x.kind(2);
        x.shape(1, 5, 1);
        x.start();
        Meshes.dueMesh("the next one", x, 1, 5, 1, 2, 0, 5, 0, 3, 2, 15, 2, 1, 6, 0, 0, 0);
        Due.refused(x, "mesh(-1)", Meshes.NO_VALUE, () -> x.mesh(-1));
        Due.refused(x, "mesh(16)", Meshes.NO_VALUE, () -> x.mesh(16));
    }

    private static void promise13Skipped() {
        Pulsemesh x = Meshes.shaped(2, 4, 3);
        Due.same("all noughts: the last one is not skipped", x.mesh(6), 7);
        Due.same("all noughts: one step", x.mesh(5), 1);
        x.left(0, 1, 4);
        Due.same("nought from above", x.mesh(6), 7);
        x.top(1, 2, 5);
        Due.same("t 1 alone is a step", x.mesh(6), 13);
        x.left(1, 3, -1);
        x.top(3, 0, -1);
        Due.same("t 1 and t 3", x.mesh(6), 5);
        Due.same("two steps", x.mesh(5), 2);
        x.start();
        x.beat(300);
        Meshes.dueResults("skipped ones are nought", x, new int[][] {{0, 0, 20}, {1, 0, 0}});
        Meshes.tellLeft(x, new int[][] {{1, 1, 0, 1}, {1, 1, 0, 1}});
        Meshes.tellTop(x, new int[][] {{0, 0, 0}, {1, 1, 1}, {1, 1, 1}, {1, 1, 1}});
        Due.same("t 0 for B, t 2 for A", x.mesh(6), 5);
        x.kind(1);
        Due.same("none is skipped by kind 1", x.mesh(6), 0);
        Due.same("four steps by kind 1", x.mesh(5), 4);
        x.kind(2);
        Due.same("none is skipped by kind 2", x.mesh(6), 0);
        x.kind(0);
        x.shape(2, 2, 2);
        Meshes.tellLeft(x, new int[][] {{1, 0}, {-1, 0}});
        Meshes.tellTop(x, new int[][] {{1, 1}, {0, 0}});
        x.checked(true);
        Due.same("a sum of nought is no column of noughts", x.mesh(6), 2);
    }

    private static void promise14OfCell() {
        Pulsemesh x = Meshes.twoByTwo();
        x.broken(3, 1, true);
        x.broken(1, 3, true);
        Due.same("broken", x.ofCell(3, 1, 0), 1);
        x.test();
        x.broken(0, 0, true);
        Due.same("known", x.ofCell(1, 3, 0), 2);
        Due.same("not known", x.ofCell(0, 0, 0), 1);
        Due.same("whole", x.ofCell(0, 1, 0), 0);
        for (int kind = 0; kind <= 2; kind++) {
            x.kind(kind);
            x.start();
            int first = kind == 0 ? 0 : kind == 1 ? 999 : -999;
            Due.same("sum ahead of the first step, kind " + kind, x.ofCell(1, 1, 2), first);
            Due.same("no cell of the tile, kind " + kind, x.ofCell(2, 0, 2), 0);
            Due.same("no step yet", x.ofCell(0, 0, 3), -1);
            x.beat(1);
            Due.same("sum of a cell that waits, kind " + kind, x.ofCell(1, 1, 2), first);
            Due.same("step 0", x.ofCell(0, 0, 3), 0);
            Due.same("use so far", x.ofCell(0, 0, 1), 2 * kind + 1);
            x.beat(300);
            Due.same("use", x.ofCell(1, 1, 1), 2 * kind + 2);
            Due.same("no tile, no sum", x.ofCell(1, 1, 2), 0);
            Due.same("no tile, no step", x.ofCell(1, 1, 3), -1);
        }
        Due.refused(x, "row -1", Meshes.NO_PLACE, () -> x.ofCell(-1, 0, 0));
        Due.refused(x, "row 5", Meshes.NO_PLACE, () -> x.ofCell(5, 0, 0));
        Due.refused(x, "column -1", Meshes.NO_PLACE, () -> x.ofCell(0, -1, 0));
        Due.refused(x, "column 5", Meshes.NO_PLACE, () -> x.ofCell(0, 5, 0));
        Due.refused(x, "what -1", Meshes.NO_VALUE, () -> x.ofCell(0, 0, -1));
        Due.refused(x, "what 4", Meshes.NO_VALUE, () -> x.ofCell(0, 0, 4));
        Due.refused(x, "both: the place is named first", Meshes.NO_PLACE, () -> x.ofCell(0, 5, 4));
        dueSmallerTile();
    }

    /** In a tile with fewer rows or columns than the layout the other cells rest. */
    private static void dueSmallerTile() {
        Pulsemesh x = Meshes.shaped(1, 1, 6);
        x.kind(1);
        x.broken(0, 1, true);
        x.test();
        // Three columns twice, as five would: 0, 2 and 3 of row 0 come ahead of 0, 1 and 2 of row 1.
        Meshes.dueBest("three columns twice", x, 8, 1, 13, 2, 8);
        x.broken(0, 1, false);
        x.shape(1, 1, 7);
        Meshes.dueBest("four columns twice", x, 9, 1, 15, 2, 9);
        x.start();
        Due.same("the fourth column works first", x.ofCell(0, 3, 2), 999);
        x.beat(5);
        Due.same("the second tile", x.mesh(13), 1);
        Due.same("a step of the tile ahead does not count", x.ofCell(0, 2, 3), -1);
        Due.same("the third column works", x.ofCell(0, 2, 2), 999);
        Due.same("the fourth column rests", x.ofCell(0, 3, 2), 0);
        x.beat(4);
        Due.same("use of the third column", x.ofCell(0, 2, 1), 2);
        Due.same("use of the fourth column", x.ofCell(0, 3, 1), 1);
        x.shape(7, 1, 1);
        Meshes.tellLeft(x, new int[][] {{1}, {2}, {3}, {4}, {5}, {6}, {7}});
        x.kind(2);
        x.top(0, 0, 5);
        Due.same("four rows, then three", x.start(), 9);
        x.beat(5);
        Due.same("the third row works", x.ofCell(2, 0, 2), -999);
        Due.same("the fourth row rests", x.ofCell(3, 0, 2), 0);
        x.beat(4);
        Meshes.dueResults("four rows, then three", x, new int[][] {{1}, {2}, {3}, {4}, {5}, {5}, {5}});
        Due.same("use of the third row", x.ofCell(2, 0, 1), 2);
        Due.same("use of the fourth row", x.ofCell(3, 0, 1), 1);
    }

    private static void promise15Result() {
        Pulsemesh x = Meshes.twoByTwo();
        Due.refused(x, "no results yet", Meshes.NO_PLACE, () -> x.result(0, 0));
        x.start();
        x.beat(4);
        Due.refused(x, "none while it runs", Meshes.NO_PLACE, () -> x.result(0, 0));
        x.beat(1);
        Meshes.dueResults("ended", x, new int[][] {{19, 22}, {43, 50}});
        x.shape(8, 1, 8);
        Meshes.dueResults("shape does nothing to them", x, new int[][] {{19, 22}, {43, 50}});
        Due.refused(x, "row -1", Meshes.NO_PLACE, () -> x.result(-1, 0));
        Due.refused(x, "row 2", Meshes.NO_PLACE, () -> x.result(2, 0));
        Due.refused(x, "column -1", Meshes.NO_PLACE, () -> x.result(0, -1));
        Due.refused(x, "column 2", Meshes.NO_PLACE, () -> x.result(0, 2));
        x.start();
        Due.refused(x, "none while the next one runs", Meshes.NO_PLACE, () -> x.result(0, 0));
    }

    private static void promise16Plain() {
        Pulsemesh x = Meshes.twoByTwo();
        Meshes.duePlain("kind 0", x, new int[][] {{19, 22}, {43, 50}});
        x.checked(true);
        Meshes.duePlain("checked", x, new int[][] {{19, 22, 41}, {43, 50, 93}, {62, 72, 134}});
        x.kind(1);
        Meshes.duePlain("kind 1", x, new int[][] {{6, 7}, {8, 9}});
        x.kind(2);
        Meshes.duePlain("kind 2", x, new int[][] {{2, 2}, {4, 4}});
        x.shape(1, 3, 2);
        Meshes.tellLeft(x, new int[][] {{-9, 9, 0}});
        Meshes.tellTop(x, new int[][] {{-9, 9}, {-8, 9}, {-9, -3}});
        Meshes.duePlain("kind 2 with less than nought", x, new int[][] {{-8, 9}});
        x.kind(1);
        Meshes.duePlain("kind 1 with less than nought", x, new int[][] {{-18, -3}});
        x.kind(0);
        Meshes.duePlain("kind 0 with less than nought", x, new int[][] {{9, 0}});
        x.broken(0, 0, true);
        x.start();
        x.top(0, 0, 0);
        Meshes.duePlain("as they are told, by whole cells", x, new int[][] {{-72, 0}});
        Due.refused(x, "row -1", Meshes.NO_PLACE, () -> x.plain(-1, 0));
        Due.refused(x, "column -1", Meshes.NO_PLACE, () -> x.plain(0, -1));
    }

    private static void promise17Row() {
        Pulsemesh x = Meshes.twoByTwo();
        x.broken(0, 0, true);
        x.broken(2, 2, true);
        x.test();
        x.broken(0, 4, true);
        x.broken(1, 2, true);
        Meshes.dueRows("no work", x, "x...?", "..?..", "..x..", ".....", ".....");
        x.start();
        Meshes.dueRows("a work on rows 0 and 1, columns 1 and 2", x, "xoo.?", ".o?..", "..x..", ".....", ".....");
        x.broken(0, 1, true);
        x.broken(0, 0, false);
        x.beat(4);
        Meshes.dueRows("broken meanwhile", x, ".?o.?", ".o?..", "..x..", ".....", ".....");
        x.beat(1);
        Meshes.dueRows("ended", x, ".?..?", "..?..", "..x..", ".....", ".....");
        Due.refused(x, "row(-1)", Meshes.NO_PLACE, () -> x.row(-1));
        Due.refused(x, "row(5)", Meshes.NO_PLACE, () -> x.row(5));
    }

    private static void promise18Beats() {
        Pulsemesh x = Meshes.shaped(8, 6, 8);
        x.kind(1);
        Due.same("all cells", x.beats(31, 31), 52);
        Due.same("one cell", x.beats(16, 1), 448);
        Due.same("rows and columns are not the same", x.beats(1, 31), 2 * 8 * 6 + 8 * 8);
        Due.same("columns alone", x.beats(31, 2), 2 * 8 * 6 + 8 * 8);
        x.kind(0);
        Due.same("but one step", x.beats(31, 31), 32);
        x.checked(true);
        Due.same("with the sums", x.beats(31, 31), 36);
        x.broken(2, 3, true);
        Due.same("broken and not known", x.beats(4, 8), 162);
        x.test();
        Due.same("known", x.beats(4, 8), -1);
        Due.same("known among others", x.beats(31, 8), -1);
        Due.same("beside it", x.beats(4, 23), 9 * 3 + 9 * 9);
        Due.same("below it", x.beats(27, 31), 36 + 9);
        Due.refused(x, "rows of 0", Meshes.NO_VALUE, () -> x.beats(0, 1));
        Due.refused(x, "rows of 32", Meshes.NO_VALUE, () -> x.beats(32, 1));
        Due.refused(x, "columns of 0", Meshes.NO_VALUE, () -> x.beats(1, 0));
        Due.refused(x, "columns of 32", Meshes.NO_VALUE, () -> x.beats(1, 32));
        Due.refused(x, "rows of -1", Meshes.NO_VALUE, () -> x.beats(-1, 1));
    }

    private static void promise19Best() {
        Pulsemesh x = Meshes.twoByTwo();
        Meshes.dueBest("two by two", x, 5, 3, 3, 1, 8);
        x.shape(8, 2, 1);
        Meshes.dueBest("8 rows: 4 of the mesh twice", x, 10, 15, 1, 2, 10);
        x.kind(2);
        Meshes.dueBest("of two steps", x, 12, 15, 1, 2, 20);
        x.kind(0);
        x.shape(8, 1, 8);
        x.checked(true);
        Meshes.dueBest("9 rows and columns need all of the mesh", x, 36, 31, 31, 4, 36);
        x.checked(false);
        x.shape(3, 1, 3);
        x.broken(1, 1, true);
        x.test();
        Meshes.dueBest("the smallest set of rows", x, 6, 7, 13, 1, 6);
        x.broken(0, 0, true);
        x.test();
        Meshes.dueBest("the smallest set of rows round two", x, 6, 7, 28, 1, 6);
        x.checked(true);
        // Without row 1 and column 0, ahead of without row 0 and column 1.
        Meshes.dueBest("with the sums", x, 8, 29, 30, 1, 8);
        Meshes.breakAll(x);
        x.test();
        Meshes.dueBest("no layout", x, -1, -1, -1, -1, -1);
        x.broken(4, 2, false);
        Meshes.dueBest("one cell", x, 32, 16, 4, 16, 32);
        Due.refused(x, "best(-1)", Meshes.NO_VALUE, () -> x.best(-1));
        Due.refused(x, "best(5)", Meshes.NO_VALUE, () -> x.best(5));
    }

    private static void promise20Saved() {
        Pulsemesh x = Meshes.twoByTwo();
        Due.same("nothing is skipped", x.saved(), 0);
        x.shape(8, 6, 8);
        Due.same("five of six, four tiles", x.saved(), 20);
        x.left(0, 0, 1);
        x.top(0, 0, 1);
        x.left(0, 1, 1);
        x.top(1, 0, 1);
        Due.same("four of six, four tiles", x.saved(), 16);
        x.kind(1);
        Due.same("by kind 1", x.saved(), 0);
        x.kind(0);
        x.checked(true);
        Meshes.breakAll(x);
        x.test();
        Due.same("no layout", x.saved(), 0);
        x.broken(0, 4, false);
        Due.same("81 tiles", x.saved(), 324);
    }

    private static void promise21IsSound() {
        Pulsemesh x = Meshes.twoByTwo();
        x.checked(true);
        x.broken(1, 1, true);
        for (int left = x.start(); left > 0; left = x.beat(1)) {
            Due.same("sound with " + left + " left", x.isSound(), true);
            x.broken(0, 0, left % 2 == 0);
        }
        Due.same("sound once it ended", x.isSound(), true);
        Meshes.breakAll(x);
        x.test();
        Due.same("sound without a layout", x.isSound(), true);
        x.broken(1, 2, false);
        x.start();
        x.beat(30);
        Due.same("sound amid tiles", x.isSound(), true);
    }

    private static void promise22Digest() {
        for (int stage = 0; stage <= 6; stage++) {
            dueDigest("stage " + stage, atStage(stage));
        }
    }

    /** 0 new, 1 told, 2 running, 3 nearly done, 4 ended, 5 the next one is told, 6 there is no layout for it. */
    private static Pulsemesh atStage(int stage) {
        Pulsemesh x = stage == 0 ? new Pulsemesh() : Meshes.twoByTwo();
        if (stage > 0) {
            x.checked(true);
            x.broken(1, 1, true);
        }
        if (stage > 1) {
            x.start();
            x.beat(stage == 2 ? 3 : stage == 3 ? 6 : 7);
        }
        if (stage > 4) {
            x.test();
            x.kind(1);
        }
        if (stage > 5) {
            Meshes.breakAll(x);
            x.test();
        }
        return x;
    }

    private static void dueDigest(String when, Pulsemesh x) {
        long d = 5659;
        for (int what = 0; what <= 15; what++) {
            d = d * 31 + x.mesh(what);
        }
        for (int cell = 0; cell < 25; cell++) {
            for (int what = 0; what <= 3; what++) {
                d = d * 31 + x.ofCell(cell / 5, cell % 5, what);
            }
        }
        for (int i = 0; i < x.mesh(14); i++) {
            for (int j = 0; j < x.mesh(15); j++) {
                d = d * 31 + x.result(i, j);
            }
        }
        for (int i = 0; i < x.mesh(0) + x.mesh(4); i++) {
            for (int j = 0; j < x.mesh(2) + x.mesh(4); j++) {
                d = d * 31 + x.plain(i, j);
            }
        }
        for (int what = 0; what <= 4; what++) {
            d = d * 31 + x.best(what);
        }
        d = d * 31 + x.saved();
        d = d * 31 + (x.isSound() ? 1 : 0);
        Due.same(when + ": digest()", x.digest(), d);
        Due.same(when + ": digest() changes nothing", x.digest(), d);
    }
}
