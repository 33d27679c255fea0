/** The edges of part 2 of the document, and of the promises on cells and layouts: 7, 8, and 17 to 20. */
final class MeshBoundaries {
    private static final String MESH = "2. The mesh";
    private static final int[][] CORNERS = {{0, 0}, {0, 4}, {4, 0}, {4, 4}};

    private MeshBoundaries() {
    }

    static void run() {
        Due.each(
                MeshBoundaries::everyCell,
                MeshBoundaries::noneBrokenAtFirst,
                MeshBoundaries::knownByTestAlone,
                MeshBoundaries::brokenEverSince,
                MeshBoundaries::emptySets,
                MeshBoundaries::crossings,
                MeshBoundaries::lastOnesLeft,
                MeshBoundaries::oneMoreIsCut,
                MeshBoundaries::smallestTile,
                MeshBoundaries::largestTile,
                MeshBoundaries::allTilesTogether,
                MeshBoundaries::fewestBeats,
                MeshBoundaries::fewestCells,
                MeshBoundaries::smallestRowsAsNumber,
                MeshBoundaries::rowsAheadOfColumns,
                MeshBoundaries::smallestColumns,
                MeshBoundaries::noLayout,
                MeshBoundaries::brokenCount,
                MeshBoundaries::brokenPlaces,
                MeshBoundaries::testKnowsAll,
                MeshBoundaries::testCounts,
                MeshBoundaries::testWhileOneRuns,
                MeshBoundaries::signsOfRow,
                MeshBoundaries::rowBounds,
                MeshBoundaries::beatsOfLayout,
                MeshBoundaries::beatsBounds,
                MeshBoundaries::beatsChangesNothing,
                MeshBoundaries::bestWithoutLayout,
                MeshBoundaries::bestFed,
                MeshBoundaries::bestBounds,
                MeshBoundaries::savedOfNothing,
                MeshBoundaries::savedOfTheSameLayout);
    }

    // ---- 2. The mesh

    private static void everyCell() {
        Due.by(MESH, "CELLS in 5 rows and 5 columns, 0 to 4 each.");
        for (int cell = 0; cell < 25; cell++) {
            Pulsemesh x = new Pulsemesh();
            x.broken(cell / 5, cell % 5, true);
            for (int other = 0; other < 25; other++) {
                int row = other / 5;
                int column = other % 5;
                Due.same("state of " + other + ", if " + cell + " is broken", x.ofCell(row, column, 0),
                        other == cell ? 1 : 0);
                Due.same("sign of " + other + ", if " + cell + " is broken", x.row(row).charAt(column),
                        other == cell ? '?' : '.');
            }
        }
    }

    private static void noneBrokenAtFirst() {
        Due.by(MESH, "A cell can be BROKEN (none at first)");
        Pulsemesh x = new Pulsemesh();
        for (int cell = 0; cell < 25; cell++) {
            Due.same("state of " + cell, x.ofCell(cell / 5, cell % 5, 0), 0);
        }
        Due.same("how many", x.mesh(7), 0);
    }

    private static void knownByTestAlone() {
        Due.by(MESH, "it is KNOWN, if a TEST found that");
        for (int[] cell : CORNERS) {
            Pulsemesh x = new Pulsemesh();
            x.broken(cell[0], cell[1], true);
            Due.same("ahead of the test", x.ofCell(cell[0], cell[1], 0), 1);
            x.test();
            Due.same("by the test", x.ofCell(cell[0], cell[1], 0), 2);
            x.broken(2, 2, true);
            Due.same("one that broke later", x.ofCell(2, 2, 0), 1);
            Due.same("known", x.mesh(8), 1);
            Due.same("whole ones are not", x.ofCell(3, 3, 0), 0);
        }
    }

    private static void brokenEverSince() {
        Due.by(MESH, "and it has been BROKEN ever since");
        for (int[] cell : CORNERS) {
            Pulsemesh x = new Pulsemesh();
            x.broken(cell[0], cell[1], true);
            x.test();
            x.broken(cell[0], cell[1], true);
            Due.same("told once more", x.ofCell(cell[0], cell[1], 0), 2);
            x.broken(cell[0], cell[1], false);
            Due.same("whole", x.ofCell(cell[0], cell[1], 0), 0);
            x.broken(cell[0], cell[1], true);
            Due.same("broken once more", x.ofCell(cell[0], cell[1], 0), 1);
            Due.same("known", x.mesh(8), 0);
            Due.same("a layout may have it", x.beats(1 << cell[0], 1 << cell[1]), 8);
            Due.same("found once more", x.test(), 1);
        }
    }

    private static void emptySets() {
        Due.by(MESH, "a set of rows and a set of columns of the mesh, neither empty");
        Pulsemesh x = new Pulsemesh();
        Due.refused(x, "no rows", Meshes.NO_VALUE, () -> x.beats(0, 31));
        Due.refused(x, "no columns", Meshes.NO_VALUE, () -> x.beats(31, 0));
        for (int[] cell : CORNERS) {
            Meshes.knowAllBut(x, cell);
            // On one cell: 4 tiles of 1 and 1 and no step more.
            Meshes.dueBest("one cell is left", x, 8, 1 << cell[0], 1 << cell[1], 4, 8);
        }
    }

    private static void crossings() {
        Due.by(MESH, "that do not cross in a KNOWN cell");
        for (int[] cell : new int[][] {{0, 0}, {0, 4}, {4, 0}, {4, 4}, {2, 3}}) {
            Pulsemesh x = new Pulsemesh();
            int row = 1 << cell[0];
            int column = 1 << cell[1];
            x.broken(cell[0], cell[1], true);
            Due.same("not known", x.beats(31, 31), 4);
            x.test();
            Due.same("in the midst of all", x.beats(31, 31), -1);
            Due.same("just there", x.beats(row, column), -1);
            Due.same("in its row", x.beats(row, 31), -1);
            Due.same("in its column", x.beats(31, column), -1);
            Due.same("its row without it", x.beats(row, 31 - column), 6);
            Due.same("its column without it", x.beats(31 - row, column), 6);
            Due.same("all other rows", x.beats(31 - row, 31), 4);
            Due.same("all other columns", x.beats(31, 31 - column), 4);
        }
    }

    private static void lastOnesLeft() {
        Due.by(MESH, "by h and h, the last ones as many as are left, the columns of B by w and w in the same way");
        for (int r = 1; r <= 8; r++) {
            for (int c = 1; c <= 8; c++) {
                Pulsemesh x = Meshes.shaped(r, 2, c);
                Meshes.tellAll(x, 1, 1);
                for (int h = 1; h <= 5; h++) {
                    for (int w = 1; w <= 5; w++) {
                        Due.same(r + " by " + c + " on " + h + " by " + w,
                                x.beats((1 << h) - 1, 31 - ((1 << 5 - w) - 1)), beatsTileByTile(r, c, h, w, 2));
                    }
                }
            }
        }
    }

    private static int beatsTileByTile(int rows, int columns, int h, int w, int steps) {
        int sum = 0;
        for (int row = 0; row < rows; row += h) {
            for (int column = 0; column < columns; column += w) {
                sum += Math.min(h, rows - row) + Math.min(w, columns - column) + steps - 1;
            }
        }
        return sum;
    }

    private static void oneMoreIsCut() {
        Due.by(MESH, "the rows of A (with the one more, if CHECKED) by h and h");
        Pulsemesh x = Meshes.shaped(5, 1, 4);
        Due.same("5 rows and 4 columns", x.beats(31, 31), 9);
        Due.same("on 4 columns", x.beats(31, 15), 9);
        x.checked(true);
        // Tiles of 5 by 5 and 1 by 5.
        Due.same("6 rows and 5 columns", x.beats(31, 31), 16);
        // Tiles of 5 by 4, 5 by 1, 1 by 4 and 1 by 1.
        Due.same("on 4 columns, with the sums", x.beats(31, 15), 22);
        Due.same("its tiles", x.best(3), 2);
    }

    private static void smallestTile() {
        Due.by(MESH, "BEATS of a TILE of m rows and n columns: m and n and STEPS less 1");
        Pulsemesh x = Meshes.shaped(1, 6, 1);
        Due.same("of one operand, skipped but the last", x.beats(31, 31), 2);
        for (int t = 0; t < 6; t++) {
            x.left(0, t, 1);
            x.top(t, 0, 1);
            Due.same("of steps " + (t + 1), x.beats(31, 31), t + 2);
        }
    }

    private static void largestTile() {
        Due.by(MESH, "m and n and STEPS less 1");
        Pulsemesh x = Meshes.shaped(5, 6, 5);
        x.kind(2);
        Due.same("5 by 5, 6 steps", x.beats(31, 31), 15);
        Due.same("started", x.start(), 15);
    }

    private static void allTilesTogether() {
        Due.by(MESH, "of the LAYOUT: all of its TILES together");
        Pulsemesh x = Meshes.shaped(8, 6, 8);
        Meshes.tellAll(x, 1, 1);
        Due.same("64 tiles of 7", x.beats(1, 1), 448);
        Due.same("4 tiles: of 5 by 5, 5 by 3, 3 by 5, 3 by 3", x.beats(31, 31), 15 + 13 + 13 + 11);
        x.checked(true);
        Due.same("81 tiles of 7", x.beats(16, 16), 567);
        Due.same("4 tiles: of 5 by 5, 5 by 4, 4 by 5, 4 by 4", x.beats(31, 31), 15 + 14 + 14 + 13);
    }

    private static void fewestBeats() {
        Due.by(MESH, "BEST LAYOUT: that with the fewest BEATS");
        // 6 rows: 3 and 3, with 8 beats; on one row there were 12, on one cell the fewest cells.
        Meshes.dueBest("6 by 1", Meshes.shaped(6, 1, 1), 8, 7, 1, 2, 8);
        Meshes.dueBest("1 by 6", Meshes.shaped(1, 1, 6), 8, 1, 7, 2, 8);
        Meshes.dueBest("1 by 1", Meshes.shaped(1, 1, 1), 2, 1, 1, 1, 2);
        Meshes.dueBest("5 by 5", Meshes.shaped(5, 1, 5), 10, 31, 31, 1, 10);
        Meshes.dueBest("8 by 8", Meshes.shaped(8, 1, 8), 32, 15, 15, 4, 32);
    }

    private static void fewestCells() {
        Due.by(MESH, "of several that with the fewest cells (h times w)");
        Pulsemesh x = Meshes.shaped(7, 1, 7);
        // 4 rows by 2 columns and 3 by 3 both need 42 beats; the set of 4 rows is the greater number.
        Meshes.draw(x, "...xx", "...xx", "...xx", "..xxx", "xxxxx");
        Due.same("3 by 3", x.beats(7, 7), 42);
        Meshes.dueBest("4 by 2", x, 42, 15, 3, 8, 42);
        Meshes.draw(x, "....x", "....x", "...xx", "xxxxx", "xxxxx");
        Due.same("3 by 3 as well", x.beats(7, 7), 42);
        Meshes.dueBest("2 by 4", x, 42, 3, 15, 8, 42);
    }

    private static void smallestRowsAsNumber() {
        Due.by(MESH, "then that with the smallest set of rows as a number");
        Pulsemesh x = Meshes.shaped(3, 1, 1);
        // Rows 0, 1 and 4 in column 0 (19), rows 0, 2 and 3 in column 1 (13).
        Meshes.draw(x, "..xxx", ".xxxx", "x.xxx", "x.xxx", ".xxxx");
        Due.same("on column 0", x.beats(19, 1), 4);
        Meshes.dueBest("on column 1", x, 4, 13, 2, 1, 4);
    }

    private static void rowsAheadOfColumns() {
        Due.by(MESH, "then that with the smallest set of rows as a number, then of columns");
        Pulsemesh x = new Pulsemesh();
        Meshes.draw(x, "xxx..", "xxx..", "xxxxx", "..xxx", "..xxx");
        Due.same("low and left", x.beats(24, 3), 4);
        Meshes.dueBest("high and right", x, 4, 3, 24, 1, 4);
    }

    private static void smallestColumns() {
        Due.by(MESH, "then of columns.");
        Pulsemesh x = Meshes.shaped(1, 1, 3);
        Meshes.draw(x, "x.x..", ".....", ".....", ".....", ".....");
        Meshes.dueBest("three of four", x, 4, 1, 26, 1, 4);
        Meshes.draw(x, "x....", ".....", ".....", ".....", ".....");
        Meshes.dueBest("the first three of four", x, 4, 1, 14, 1, 4);
    }

    private static void noLayout() {
        Due.by(MESH, "(None, if each cell is KNOWN.)");
        Pulsemesh x = Meshes.twoByTwo();
        Meshes.breakAll(x);
        Meshes.dueBest("all are broken", x, 5, 3, 3, 1, 8);
        x.test();
        Meshes.dueBest("all are known", x, -1, -1, -1, -1, -1);
        x.broken(4, 4, false);
        x.broken(4, 4, true);
        Meshes.dueBest("all are broken, all but one are known", x, 12, 16, 16, 4, 16);
        x.test();
        Meshes.dueBest("all are known again", x, -1, -1, -1, -1, -1);
    }

    // ---- Promises 7 and 8

    private static void brokenCount() {
        Due.by("Promise 7", "Returns how many are BROKEN then.");
        Pulsemesh x = new Pulsemesh();
        Due.same("a whole one is whole", x.broken(4, 4, false), 0);
        for (int cell = 0; cell < 25; cell++) {
            Due.same("broken up to " + cell, x.broken(cell / 5, cell % 5, true), cell + 1);
            Due.same("told twice", x.broken(cell / 5, cell % 5, true), cell + 1);
        }
        x.test();
        Due.same("known ones count", x.broken(0, 0, true), 25);
        for (int cell = 0; cell < 25; cell++) {
            Due.same("whole up to " + cell, x.broken(cell / 5, cell % 5, false), 24 - cell);
        }
    }

    private static void brokenPlaces() {
        Due.by("Promise 7", "Throws `IndexOutOfBoundsException` if row or column is not 0 to 4");
        Pulsemesh x = new Pulsemesh();
        Meshes.breakAll(x);
        x.test();
        for (int bad : new int[] {-1, 5, Meshes.LEAST, Meshes.MOST}) {
            for (int edge = 0; edge <= 4; edge += 4) {
                int other = edge;
                Due.refused(x, "row " + bad, Meshes.NO_PLACE, () -> x.broken(bad, other, other == 0));
                Due.refused(x, "column " + bad, Meshes.NO_PLACE, () -> x.broken(other, bad, other == 0));
            }
        }
    }

    private static void testKnowsAll() {
        Due.by("Promise 8", "TESTS all cells: each one that is BROKEN is KNOWN then.");
        Pulsemesh x = new Pulsemesh();
        Meshes.breakAll(x);
        Due.same("known ahead", x.mesh(8), 0);
        x.test();
        Due.same("known then", x.mesh(8), 25);
        Meshes.dueRows("all", x, "xxxxx", "xxxxx", "xxxxx", "xxxxx", "xxxxx");
        Pulsemesh some = new Pulsemesh();
        for (int[] cell : CORNERS) {
            some.broken(cell[0], cell[1], true);
        }
        some.test();
        Meshes.dueRows("corners", some, "x...x", ".....", ".....", ".....", "x...x");
    }

    private static void testCounts() {
        Due.by("Promise 8", "Returns how many of them were not KNOWN ahead.");
        Pulsemesh x = new Pulsemesh();
        Due.same("none is broken", x.test(), 0);
        x.broken(4, 4, true);
        Due.same("one", x.test(), 1);
        Due.same("that one is known", x.test(), 0);
        Meshes.breakAll(x);
        Due.same("all but that one", x.test(), 24);
        x.broken(0, 0, false);
        Due.same("whole ones are not counted", x.test(), 0);
        Pulsemesh full = new Pulsemesh();
        Meshes.breakAll(full);
        Due.same("all", full.test(), 25);
    }

    private static void testWhileOneRuns() {
        Due.by("Promise 8", "Throws `IllegalStateException` if a work runs");
        Pulsemesh x = Meshes.twoByTwo();
        x.broken(4, 4, true);
        for (int left = x.start(); left > 0; left = x.beat(1)) {
            Due.refused(x, "test with beats left", Meshes.NOT_NOW, () -> x.test());
            Due.same("it is not known", x.ofCell(4, 4, 0), 1);
        }
        Due.same("once it ended", Meshes.answerOf(() -> x.test()), 1);
    }

    // ---- Promises 17 to 20

    private static void signsOfRow() {
        Due.by("Promise 17", "Returns its cells: \".\" whole, \"x\" KNOWN, \"?\" BROKEN and not KNOWN; of whole"
                + " ones \"o\""
                + " if it is in the LAYOUT of the work that runs.");
        Pulsemesh x = Meshes.shaped(3, 1, 3);
        Meshes.draw(x, "xxxxx", "x..xx", "xxxxx", "xxxx.", "x..xx");
        x.broken(0, 0, false);
        x.broken(0, 0, true);
        Meshes.dueRows("no work", x, "?xxxx", "x..xx", "xxxxx", "xxxx.", "x..xx");
        // Rows 1 and 4, columns 1 and 2: tiles of 2 by 2, 2 by 1, 1 by 2 and 1 by 1.
        Due.same("beats", x.start(), 12);
        Meshes.dueRows("a work", x, "?xxxx", "xooxx", "xxxxx", "xxxx.", "xooxx");
        x.broken(1, 1, true);
        x.broken(0, 0, false);
        Meshes.dueRows("broken and mended meanwhile", x, ".xxxx", "x?oxx", "xxxxx", "xxxx.", "xooxx");
        x.broken(1, 1, false);
        x.beat(11);
        Due.same("the last tile has one cell", x.mesh(13), 3);
        Meshes.dueRows("in the last tile", x, ".xxxx", "xooxx", "xxxxx", "xxxx.", "xooxx");
        x.beat(1);
        Meshes.dueRows("ended", x, ".xxxx", "x..xx", "xxxxx", "xxxx.", "x..xx");
    }

    private static void rowBounds() {
        Due.by("Promise 17", "Throws `IndexOutOfBoundsException` if row is not 0 to 4");
        Pulsemesh x = new Pulsemesh();
        for (int row = 0; row <= 4; row++) {
            int asked = row;
            Due.same("row " + row, Meshes.answerOf(() -> x.row(asked)), ".....");
        }
        for (int bad : new int[] {-1, 5, Meshes.LEAST, Meshes.MOST}) {
            Due.refused(x, "row " + bad, Meshes.NO_PLACE, () -> x.row(bad));
        }
    }

    private static void beatsOfLayout() {
        Due.by("Promise 18", "Returns BEATS of that LAYOUT; NONE, if they cross in a KNOWN cell.");
        Pulsemesh x = Meshes.shaped(6, 1, 4);
        Meshes.draw(x, ".....", ".....", ".....", ".....", "....x");
        Due.same("the least sets", x.beats(1, 1), 48);
        Due.same("all rows", x.beats(31, 1), 4 * (5 + 1) + 4 * (1 + 1));
        Due.same("all columns", x.beats(1, 31), 6 * (1 + 4));
        Due.same("the known one", x.beats(16, 16), -1);
        Due.same("all", x.beats(31, 31), -1);
        Due.same("all but it", x.beats(15, 31), 4 + 4 + 2 + 4);
    }

    private static void beatsBounds() {
        Due.by("Promise 18", "Throws `IllegalArgumentException` if rows or columns is not 1 to 31");
        Pulsemesh x = new Pulsemesh();
        for (int set = 1; set <= 31; set++) {
            int asked = set;
            int wide = Integer.bitCount(set) == 1 ? 6 : 4;
            Due.same("rows of " + set, Meshes.answerOf(() -> x.beats(asked, 31)), wide);
            Due.same("columns of " + set, Meshes.answerOf(() -> x.beats(31, asked)), wide);
        }
        for (int bad : new int[] {0, 32, 33, -1, Meshes.LEAST, Meshes.MOST}) {
            Due.refused(x, "rows of " + bad, Meshes.NO_VALUE, () -> x.beats(bad, 1));
            Due.refused(x, "columns of " + bad, Meshes.NO_VALUE, () -> x.beats(1, bad));
        }
        Meshes.breakAll(x);
        x.test();
        Due.refused(x, "rows of 0 without a layout", Meshes.NO_VALUE, () -> x.beats(0, 31));
        Due.refused(x, "columns of 32 without a layout", Meshes.NO_VALUE, () -> x.beats(31, 32));
    }

    private static void beatsChangesNothing() {
        Due.by("Promise 18", "---- what would be (nothing is changed)");
        Pulsemesh x = Meshes.twoByTwo();
        x.start();
        x.beat(2);
        long before = x.digest();
        String rows = x.row(0);
        x.beats(16, 16);
        x.best(0);
        x.saved();
        Due.same("digest", x.digest(), before);
        Due.same("row 0", x.row(0), rows);
        Due.same("beats left", x.beat(1), 2);
        x.beats(16, 16);
        x.shape(8, 6, 8);
        Due.same("beats of what is told", x.beats(31, 31), 32);
        Due.same("best of what is told", x.best(0), 32);
        Due.same("saved of what is told", x.saved(), 20);
        x.beat(300);
        Meshes.dueResults("done", x, new int[][] {{19, 22}, {43, 50}});
    }

    private static void bestWithoutLayout() {
        Due.by("Promise 19", "Returns that (NONE without a LAYOUT).");
        Pulsemesh x = Meshes.twoByTwo();
        Meshes.knowAllBut(x, new int[] {2, 3});
        Meshes.dueBest("one cell", x, 12, 4, 8, 4, 16);
        x.start();
        x.broken(2, 3, true);
        Meshes.dueBest("broken while a work runs on it", x, 12, 4, 8, 4, 16);
        Meshes.runOut(x);
        x.test();
        Meshes.dueBest("none", x, -1, -1, -1, -1, -1);
    }

    private static void bestFed() {
        Due.by("Promise 19", "4 how many operands are fed from the left and from above (the sums of CHECKED, too), STEP"
                + " by STEP, TILE by TILE");
        Pulsemesh x = Meshes.shaped(6, 2, 1);
        Due.same("two tiles of 3 and 1, one step", x.best(4), 8);
        x.kind(1);
        Due.same("two steps", x.best(4), 16);
        x.kind(0);
        x.checked(true);
        // 7 rows by 4, 2 columns: 4 and 2, 3 and 2.
        Due.same("with the sums", x.best(4), 11);
        x.shape(1, 1, 1);
        x.checked(false);
        Due.same("the least", x.best(4), 2);
        x.shape(8, 6, 8);
        Meshes.tellAll(x, 1, 1);
        x.checked(true);
        Meshes.knowAllBut(x, new int[] {0, 0});
        Due.same("the most", x.best(4), 81 * 2 * 6);
    }

    private static void bestBounds() {
        Due.by("Promise 19", "Throws `IllegalArgumentException` if what is not 0 to 4");
        Pulsemesh x = new Pulsemesh();
        Due.same("best(0)", Meshes.answerOf(() -> x.best(0)), 4);
        Due.same("best(4)", Meshes.answerOf(() -> x.best(4)), 4);
        for (int turn = 0; turn < 2; turn++) {
            for (int bad : new int[] {-1, 5, Meshes.LEAST, Meshes.MOST}) {
                Due.refused(x, "best(" + bad + ")", Meshes.NO_VALUE, () -> x.best(bad));
            }
            // Without a layout as well.
            Meshes.breakAll(x);
            x.test();
        }
    }

    private static void savedOfNothing() {
        Due.by("Promise 20", "if nothing was SKIPPED (0 without one).");
        Pulsemesh x = Meshes.shaped(8, 6, 8);
        Due.same("noughts", x.saved(), 20);
        Meshes.knowAllBut(x, new int[] {0, 0});
        Due.same("noughts on one cell", x.saved(), 320);
        x.broken(0, 0, true);
        x.test();
        Due.same("no layout", x.saved(), 0);
        x.broken(0, 0, false);
        Meshes.tellAll(x, 1, 1);
        Due.same("nothing is skipped", x.saved(), 0);
        x.shape(3, 1, 3);
        Due.same("a nought that is the last", x.saved(), 0);
        x.shape(3, 6, 3);
        x.kind(2);
        Due.same("nothing is skipped by kind 2", x.saved(), 0);
    }

    private static void savedOfTheSameLayout() {
        Due.by("Promise 20",
                "Returns by how many BEATS the BEST LAYOUT has fewer than the same LAYOUT would have, if nothing was"
                + " SKIPPED (0 without one).");
        Pulsemesh x = Meshes.shaped(5, 6, 5);
        Meshes.draw(x, ".....", "..xxx", "xxxxx", "xxxxx", "xxxxx");
        // 9 tiles on 2 by 2; with 6 steps each row 0 alone would be better.
        Meshes.dueBest("of one step", x, 30, 3, 3, 9, 30);
        Due.same("5 in each tile", x.saved(), 45);
        x.kind(1);
        Meshes.dueBest("of six steps", x, 55, 1, 31, 5, 180);
    }
}
