/** The edges of part 3 of the document, and of promises 9 and 10. */
final class BeatsBoundaries {
    private static final String BEATS = "3. Beats";

    private BeatsBoundaries() {
    }

    static void run() {
        Due.each(
                BeatsBoundaries::layoutOfThen,
                BeatsBoundaries::workOfThen,
                BeatsBoundaries::kindOfThen,
                BeatsBoundaries::checkedOfThen,
                BeatsBoundaries::tilesInOrder,
                BeatsBoundaries::firstRowsOfLayout,
                BeatsBoundaries::stepsOfEachBeat,
                BeatsBoundaries::stepsThatAreNotSkipped,
                BeatsBoundaries::operandsFromLeftAndAbove,
                BeatsBoundaries::brokenCellsAddOne,
                BeatsBoundaries::brokenMeanwhile,
                BeatsBoundaries::brokenByEachKind,
                BeatsBoundaries::brokenEachTime,
                BeatsBoundaries::firstSums,
                BeatsBoundaries::firstSumsOfEachTile,
                BeatsBoundaries::drainedInTheLastBeat,
                BeatsBoundaries::drainedWholeTiles,
                BeatsBoundaries::useForEver,
                BeatsBoundaries::useOfNoughtsAndRests,
                BeatsBoundaries::workEndsByAllItsBeats,
                BeatsBoundaries::noOtherOneTillThen,
                BeatsBoundaries::toldMeanwhile,
                BeatsBoundaries::startReturnsBeats,
                BeatsBoundaries::startWhileOneRuns,
                BeatsBoundaries::startWithoutLayout,
                BeatsBoundaries::startOnBrokenCells,
                BeatsBoundaries::beatReturnsWhatIsLeft,
                BeatsBoundaries::moreThanAreLeft,
                BeatsBoundaries::beatBounds,
                BeatsBoundaries::beatWithoutWork);
    }

    // ---- 3. Beats

    private static void layoutOfThen() {
        Due.by(BEATS, "To START the work: by the BEST LAYOUT of then");
        Pulsemesh x = Meshes.twoByTwo();
        Meshes.knowAllBut(x, new int[] {2, 2});
        x.start();
        Meshes.mendAll(x);
        Due.same("a better one is there now", x.best(0), 5);
        Meshes.dueRows("the work stays", x, ".....", ".....", "..o..", ".....", ".....");
        Due.same("beats that are left", x.mesh(12), 12);
        x.beat(3);
        Due.same("the next tile", x.mesh(13), 1);
        Due.same("beats till the end", x.beat(8), 1);
        x.beat(1);
        Due.same("all was taken by one cell", x.ofCell(2, 2, 1), 8);
        Meshes.dueResults("done", x, new int[][] {{19, 22}, {43, 50}});
        Due.same("the next one is better", x.start(), 5);
    }

    private static void workOfThen() {
        Due.by(BEATS, "with SHAPE, operands, KIND and CHECKED as they are (all of that is kept for it)");
        for (int r = 1; r <= 8; r += 7) {
            for (int beats = 0; beats <= 4; beats++) {
                Pulsemesh x = Meshes.twoByTwo();
                x.start();
                if (beats > 0) {
                    x.beat(beats);
                }
                x.shape(r, r == 1 ? 1 : 6, 9 - r);
                Meshes.tellAll(x, -9, 9);
                Due.same("beats left", x.mesh(12), 5 - beats);
                x.beat(300);
                Meshes.dueResults("told after " + beats, x, new int[][] {{19, 22}, {43, 50}});
                Due.same("beats", x.mesh(9), 5);
            }
        }
    }

    private static void kindOfThen() {
        Due.by(BEATS, "KIND and CHECKED as they are (all of that is kept for it)");
        int[][][] wants = {{{19, 22}, {43, 50}}, {{6, 7}, {8, 9}}, {{2, 2}, {4, 4}}};
        for (int kind = 0; kind <= 2; kind++) {
            Pulsemesh x = Meshes.twoByTwo();
            x.kind(kind);
            x.start();
            x.beat(1);
            x.kind((kind + 1) % 3);
            x.beat(2);
            x.kind((kind + 2) % 3);
            x.beat(2);
            Meshes.dueResults("kind " + kind, x, wants[kind]);
        }
    }

    private static void checkedOfThen() {
        Due.by(BEATS, "CHECKED as they are (all of that is kept for it)");
        Pulsemesh x = Meshes.twoByTwo();
        x.checked(true);
        x.start();
        x.checked(false);
        x.beat(300);
        Meshes.dueResults("checked", x, new int[][] {{19, 22, 41}, {43, 50, 93}, {62, 72, 134}});
        Due.same("check of it", Meshes.answerOf(() -> x.check()), 0);
        x.start();
        x.checked(true);
        x.beat(300);
        Meshes.dueResults("not checked", x, new int[][] {{19, 22}, {43, 50}});
        Due.refused(x, "check of none", Meshes.NOT_NOW, () -> x.check());
    }

    private static void tilesInOrder() {
        Due.by(BEATS, "TILES are done row of TILES by row of TILES, in each from the first columns on");
        Pulsemesh x = Meshes.shaped(2, 1, 3);
        Meshes.tellLeft(x, new int[][] {{2}, {3}});
        Meshes.tellTop(x, new int[][] {{5, 7, 9}});
        Meshes.knowAllBut(x, new int[] {4, 4});
        Due.same("6 tiles of 2 beats", x.start(), 12);
        int[] sums = {10, 14, 18, 15, 21, 27};
        for (int tile = 0; tile < 6; tile++) {
            Due.same("tile", x.mesh(13), tile);
            x.beat(1);
            Due.same("still that tile", x.mesh(13), tile);
            Due.same("sum of tile " + tile, x.ofCell(4, 4, 2), sums[tile]);
            x.beat(1);
        }
        Due.same("no tile", x.mesh(13), -1);
        Meshes.dueResults("done", x, new int[][] {{10, 14, 18}, {15, 21, 27}});
    }

    private static void firstRowsOfLayout() {
        Due.by(BEATS, "the rows of a TILE go to the first rows of the LAYOUT, one to one, the columns likewise");
        Pulsemesh x = Meshes.shaped(3, 1, 3);
        Meshes.tellLeft(x, new int[][] {{1}, {2}, {3}});
        Meshes.tellTop(x, new int[][] {{4, 5, 6}});
        Meshes.knowAllBut(x, new int[] {1, 0}, new int[] {1, 4}, new int[] {3, 0}, new int[] {3, 4});
        Due.same("tiles of 4, 3, 3 and 2 beats", x.start(), 12);
        x.beat(3);
        dueFourSums("rows 0 and 1, columns 0 and 1", x, 4, 5, 8, 10);
        x.beat(3);
        dueFourSums("rows 0 and 1, column 2", x, 6, 0, 12, 0);
        x.beat(3);
        dueFourSums("row 2, columns 0 and 1", x, 12, 15, 0, 0);
        x.beat(2);
        dueFourSums("row 2, column 2", x, 18, 0, 0, 0);
        x.beat(1);
        Meshes.dueResults("done", x, new int[][] {{4, 5, 6}, {8, 10, 12}, {12, 15, 18}});
        Due.same("use of the first one", x.ofCell(1, 0, 1), 4);
        Due.same("use in the first row", x.ofCell(1, 4, 1), 2);
        Due.same("use in the first column", x.ofCell(3, 0, 1), 2);
        Due.same("use of the last one", x.ofCell(3, 4, 1), 1);
    }

    private static void dueFourSums(String when, Pulsemesh x, int... wants) {
        Due.same(when + ": (1, 0)", x.ofCell(1, 0, 2), wants[0]);
        Due.same(when + ": (1, 4)", x.ofCell(1, 4, 2), wants[1]);
        Due.same(when + ": (3, 0)", x.ofCell(3, 0, 2), wants[2]);
        Due.same(when + ": (3, 4)", x.ofCell(3, 4, 2), wants[3]);
    }

    private static void stepsOfEachBeat() {
        Due.by(BEATS, "the cell of its row i and its column j, if b less i less j is the number s of a STEP"
                + " (from 0 on)");
        for (int row = 0; row <= 4; row++) {
            Pulsemesh x = Meshes.shaped(5, 6, 5);
            x.kind(2);
            x.start();
            for (int b = 0; b < 14; b++) {
                x.beat(1);
                for (int column = 0; column <= 4; column++) {
                    int s = b - row - column;
                    String when = "beat " + b + ", cell " + row + " " + column;
                    Due.same(when + ": step", x.ofCell(row, column, 3), s < 0 || s > 5 ? -1 : s);
                    Due.same(when + ": use", x.ofCell(row, column, 1), Math.max(0, Math.min(6, s + 1)));
                }
            }
            Due.same("the last one took its last step one beat ahead of the end", x.mesh(12), 1);
        }
    }

    private static void stepsThatAreNotSkipped() {
        Due.by(BEATS, "takes the s-th t that is not SKIPPED");
        Pulsemesh x = Meshes.shaped(1, 6, 1);
        // t 0 and t 5 are noughts of A, t 2 is one of B.
        Meshes.tellLeft(x, new int[][] {{0, 1, 5, 2, 3, 0}});
        Meshes.tellTop(x, new int[][] {{9}, {7}, {0}, {6}, {5}, {9}});
        Due.same("skipped", x.mesh(6), 37);
        Due.same("beats", x.start(), 4);
        int[] sums = {7, 19, 34};
        for (int s = 0; s < 3; s++) {
            x.beat(1);
            Due.same("step", x.ofCell(0, 0, 3), s);
            Due.same("sum by step " + s, x.ofCell(0, 0, 2), sums[s]);
        }
        x.beat(1);
        Due.same("use", x.ofCell(0, 0, 1), 3);
        Meshes.dueResults("done", x, new int[][] {{34}});
    }

    private static void operandsFromLeftAndAbove() {
        Due.by(BEATS, "A and B of that t (that come from the left and from above, a cell a BEAT)");
        Pulsemesh x = Meshes.twoByTwo();
        x.start();
        int[][] sums = {{5, 0, 0, 0}, {19, 6, 15, 0}, {19, 22, 43, 18}, {19, 22, 43, 50}};
        for (int b = 0; b < 4; b++) {
            x.beat(1);
            for (int cell = 0; cell < 4; cell++) {
                Due.same("beat " + b + ", cell " + cell, x.ofCell(cell / 2, cell % 2, 2), sums[b][cell]);
            }
        }
    }

    private static void brokenCellsAddOne() {
        Due.by(BEATS, "by a BROKEN cell (KNOWN or not) the sum is then 1 more");
        int[][] right = {{19, 22}, {43, 50}};
        for (int cell = 0; cell < 4; cell++) {
            Pulsemesh x = Meshes.twoByTwo();
            x.broken(cell / 2, cell % 2, true);
            x.broken(0, 4, true);
            x.broken(4, 1, true);
            Meshes.runThrough(x);
            for (int other = 0; other < 4; other++) {
                int row = other / 2;
                int column = other % 2;
                Due.same("result of " + other + ", if " + cell + " is broken", x.result(row, column),
                        right[row][column] + (other == cell ? 2 : 0));
            }
        }
    }

    private static void brokenMeanwhile() {
        Due.by(BEATS, "by a BROKEN cell (KNOWN or not) the sum is then 1 more, by each KIND, each time.");
        // The cell (0, 0) takes something in beats 0 and 1, (1, 1) in beats 2 and 3; beat 4 drains alone.
        for (int from = 0; from <= 4; from++) {
            for (int to = from; to <= 5; to++) {
                Pulsemesh x = Meshes.twoByTwo();
                x.start();
                for (int b = 0; b < 5; b++) {
                    x.broken(0, 0, b >= from && b < to);
                    x.broken(1, 1, b >= from && b < to);
                    x.beat(1);
                }
                String when = "broken in beats " + from + " to " + to + " less 1";
                Due.same(when + ": (0, 0)", x.result(0, 0), 19 + Math.max(0, Math.min(2, to) - from));
                Due.same(when + ": (1, 1)", x.result(1, 1),
                        50 + Math.max(0, Math.min(4, to) - Math.max(2, from)));
            }
        }
    }

    private static void brokenByEachKind() {
        Due.by(BEATS, "the sum is then 1 more, by each KIND");
        // By kind 1: 18 + 1. By kind 2: 9 + 1. By kind 0: 81 + 1.
        int[] wants = {82, 19, 10};
        for (int kind = 0; kind <= 2; kind++) {
            Pulsemesh x = Meshes.shaped(1, 1, 1);
            x.kind(kind);
            Meshes.tellAll(x, 9, 9);
            x.broken(0, 0, true);
            Meshes.runThrough(x);
            Meshes.dueResults("kind " + kind, x, new int[][] {{wants[kind]}});
        }
    }

    private static void brokenEachTime() {
        Due.by(BEATS, "1 more, by each KIND, each time.");
        // By kind 1 each step begins again with 4; by kind 2 the greatest grows each time.
        int[][] sums = {{5, 10, 15, 20, 25, 30}, {5, 5, 5, 5, 5, 5}, {3, 4, 5, 6, 7, 8}};
        for (int kind = 0; kind <= 2; kind++) {
            Pulsemesh x = Meshes.shaped(1, 6, 1);
            x.kind(kind);
            Meshes.tellAll(x, 2, 2);
            x.broken(0, 0, true);
            x.start();
            for (int s = 0; s < 6; s++) {
                x.beat(1);
                Due.same("kind " + kind + ", sum by step " + s, x.ofCell(0, 0, 2), sums[kind][s]);
            }
            x.beat(1);
            Due.same("kind " + kind + ", the last beat adds nothing", x.result(0, 0), sums[kind][5]);
        }
    }

    private static void firstSums() {
        Due.by(BEATS, "(The sum begins with 0, by KIND 1 with 999, by 2 with -999.)");
        int[] first = {0, 999, -999};
        for (int kind = 0; kind <= 2; kind++) {
            Pulsemesh x = Meshes.shaped(2, 1, 2);
            x.kind(kind);
            x.start();
            Due.same("kind " + kind + ": (0, 0) ahead", x.ofCell(0, 0, 2), first[kind]);
            Due.same("kind " + kind + ": (1, 1) ahead", x.ofCell(1, 1, 2), first[kind]);
            x.beat(2);
            Due.same("kind " + kind + ": (1, 1) waits", x.ofCell(1, 1, 2), first[kind]);
            x.beat(1);
            Due.same("kind " + kind + ": (1, 1) then", x.ofCell(1, 1, 2), 0);
        }
    }

    private static void firstSumsOfEachTile() {
        Due.by(BEATS, "The sum begins with 0, by KIND 1 with 999, by 2 with -999.");
        int[][] wants = {{9, -9}, {4, -2}, {3, -3}};
        int[] first = {0, 999, -999};
        for (int kind = 0; kind <= 2; kind++) {
            Pulsemesh x = Meshes.shaped(2, 1, 1);
            x.kind(kind);
            Meshes.tellLeft(x, new int[][] {{kind == 1 ? 1 : 3}, {kind == 1 ? -5 : -3}});
            x.top(0, 0, 3);
            Meshes.knowAllBut(x, new int[] {3, 1});
            x.start();
            for (int tile = 0; tile < 2; tile++) {
                Due.same("kind " + kind + ", tile " + tile + ": first sum", x.ofCell(3, 1, 2), first[kind]);
                x.beat(1);
                Due.same("kind " + kind + ", tile " + tile + ": sum", x.ofCell(3, 1, 2), wants[kind][tile]);
                x.beat(1);
            }
            Meshes.dueResults("kind " + kind, x, new int[][] {{wants[kind][0]}, {wants[kind][1]}});
        }
    }

    private static void drainedInTheLastBeat() {
        Due.by(BEATS, "In the last BEAT of a TILE its sums are DRAINED");
        Pulsemesh x = Meshes.shaped(1, 1, 1);
        Meshes.tellAll(x, 3, 4);
        Due.same("the smallest work has two beats", x.start(), 2);
        Due.same("one takes", x.beat(1), 1);
        Due.same("the sum", x.ofCell(0, 0, 2), 12);
        Meshes.dueNoResults("ahead of the last one", x);
        Due.same("one drains", x.beat(1), 0);
        Meshes.dueResults("drained", x, new int[][] {{12}});
        Due.same("no sum then", x.ofCell(0, 0, 2), 0);
    }

    private static void drainedWholeTiles() {
        Due.by(BEATS, "they are the RESULTS of its rows and columns");
        Pulsemesh x = Meshes.shaped(8, 1, 8);
        for (int line = 0; line < 8; line++) {
            x.left(line, 0, line + 1);
            x.top(0, line, line - 9);
        }
        x.checked(true);
        // 9 by 9 on 5 by 5: tiles of 5 by 5, 5 by 4, 4 by 5 and 4 by 4.
        Due.same("beats", x.start(), 36);
        Due.same("one beat ahead", x.beat(35), 1);
        Meshes.dueNoResults("one beat ahead", x);
        x.beat(1);
        for (int i = 0; i <= 8; i++) {
            for (int j = 0; j <= 8; j++) {
                int ofLeft = i == 8 ? 36 : i + 1;
                int ofTop = j == 8 ? -44 : j - 9;
                Due.same("result of " + i + " and " + j, x.result(i, j), ofLeft * ofTop);
            }
        }
    }

    private static void useForEver() {
        Due.by(BEATS, "USE of a cell: how often it took something, ever.");
        Pulsemesh x = Meshes.shaped(1, 6, 1);
        x.kind(1);
        for (int work = 0; work < 4; work++) {
            x.start();
            x.beat(3);
            Due.same("amid work " + work, x.ofCell(0, 0, 1), 6 * work + 3);
            x.broken(0, 0, work % 2 == 0);
            x.beat(300);
            Due.same("after work " + work, x.ofCell(0, 0, 1), 6 * work + 6);
        }
        x.shape(2, 2, 2);
        x.broken(0, 0, true);
        x.test();
        Due.same("it stays", x.ofCell(0, 0, 1), 24);
        Due.same("of one that never took a thing", x.ofCell(0, 1, 1), 0);
    }

    private static void useOfNoughtsAndRests() {
        Due.by(BEATS, "how often it took something");
        Pulsemesh x = new Pulsemesh();
        x.start();
        x.beat(4);
        for (int cell = 0; cell < 25; cell++) {
            boolean isOfTile = cell == 0 || cell == 1 || cell == 5 || cell == 6;
            Due.same("a nought is taken too, by cell " + cell, x.ofCell(cell / 5, cell % 5, 1), isOfTile ? 1 : 0);
        }
    }

    private static void workEndsByAllItsBeats() {
        Due.by(BEATS, "A work that runs ends by all of its BEATS");
        Pulsemesh x = Meshes.twoByTwo();
        x.start();
        for (int left = 5; left >= 1; left--) {
            Meshes.dueNoResults("with " + left + " left", x);
            Due.same("it runs", x.mesh(11), 1);
            Due.same("left", x.mesh(12), left);
            x.beat(1);
        }
        Due.same("it ended", x.mesh(11), 0);
        Due.same("none is left", x.mesh(12), 0);
        Meshes.dueResults("ended", x, new int[][] {{19, 22}, {43, 50}});
    }

    private static void noOtherOneTillThen() {
        Due.by(BEATS, "till then no other one can be STARTED");
        Pulsemesh x = Meshes.twoByTwo();
        for (int left = x.start(); left > 0; left = x.beat(1)) {
            Due.refused(x, "start with beats left", Meshes.NOT_NOW, () -> x.start());
        }
        Due.same("start then", Meshes.answerOf(() -> x.start()), 5);
        Due.same("works", x.mesh(10), 2);
    }

    private static void toldMeanwhile() {
        Due.by(BEATS, "operands that are told meanwhile are for the next one.");
        Pulsemesh x = Meshes.twoByTwo();
        x.start();
        Due.same("what was told of A", x.left(1, 1, 0), 4);
        Due.same("what was told of B", x.top(0, 0, -5), 5);
        x.beat(2);
        x.left(1, 0, 9);
        x.beat(3);
        Meshes.dueResults("this one", x, new int[][] {{19, 22}, {43, 50}});
        Meshes.runThrough(x);
        Meshes.dueResults("the next one", x, new int[][] {{9, 22}, {-45, 54}});
    }

    // ---- Promises 9 and 10

    private static void startReturnsBeats() {
        Due.by("Promise 9", "Returns its BEATS.");
        for (int[] shape : new int[][] {{1, 1, 1}, {5, 6, 5}, {6, 2, 4}, {8, 6, 8}}) {
            Pulsemesh x = Meshes.shaped(shape[0], shape[1], shape[2]);
            Meshes.tellAll(x, 1, -1);
            int told = x.best(0);
            Due.same("start", x.start(), told);
            Due.same("left", x.mesh(12), told);
            x.beat(told);
            Due.same("gone", x.mesh(9), told);
        }
        Pulsemesh x = Meshes.shaped(8, 6, 8);
        Meshes.tellAll(x, 1, 1);
        x.checked(true);
        Meshes.knowAllBut(x, new int[] {2, 4});
        Due.same("the most of all", x.start(), 567);
        Due.same("the least of all", Meshes.shaped(1, 1, 1).start(), 2);
    }

    private static void startWhileOneRuns() {
        Due.by("Promise 9", "Throws `IllegalStateException` if one runs, or there is no LAYOUT");
        Pulsemesh x = Meshes.twoByTwo();
        x.start();
        Due.refused(x, "start at once", Meshes.NOT_NOW, () -> x.start());
        x.beat(4);
        Due.refused(x, "start ahead of the last beat", Meshes.NOT_NOW, () -> x.start());
        x.beat(1);
        Due.same("start after it", Meshes.answerOf(() -> x.start()), 5);
    }

    private static void startWithoutLayout() {
        Due.by("Promise 9", "or there is no LAYOUT");
        Pulsemesh x = Meshes.twoByTwoDone(false);
        Meshes.breakAll(x);
        x.test();
        Due.refused(x, "start", Meshes.NOT_NOW, () -> x.start());
        Meshes.dueResults("they stay", x, new int[][] {{19, 22}, {43, 50}});
        Due.same("works", x.mesh(10), 1);
        Due.refused(x, "beat then", Meshes.NOT_NOW, () -> x.beat(1));
        x.broken(4, 0, false);
        Due.same("on one cell", Meshes.answerOf(() -> x.start()), 12);
    }

    private static void startOnBrokenCells() {
        Due.by("Promise 9", "there is no LAYOUT");
        Pulsemesh x = Meshes.twoByTwo();
        Meshes.breakAll(x);
        Due.same("all are broken, none is known", Meshes.answerOf(() -> x.start()), 5);
        x.beat(5);
        Meshes.dueResults("one more by each of two steps", x, new int[][] {{21, 24}, {45, 52}});
    }

    private static void beatReturnsWhatIsLeft() {
        Due.by("Promise 10", "Returns how many of the work are left then.");
        Pulsemesh x = Meshes.twoByTwo();
        x.start();
        Due.same("of five, one", x.beat(1), 4);
        Due.same("of four, three", x.beat(3), 1);
        Due.same("of one, one", x.beat(1), 0);
        x.start();
        Due.same("all at once", x.beat(5), 0);
        x.shape(8, 6, 8);
        x.kind(1);
        Meshes.knowAllBut(x, new int[] {0, 4});
        Due.same("64 tiles of 7", x.start(), 448);
        Due.same("the most at once", x.beat(300), 148);
        Due.same("all but one", x.beat(147), 1);
        Due.same("the last one", x.beat(1), 0);
    }

    private static void moreThanAreLeft() {
        Due.by("Promise 10", "BEATS go by (more than are left do nothing).");
        Pulsemesh x = Meshes.twoByTwo();
        x.start();
        Due.same("one more than are left", x.beat(6), 0);
        Due.same("beats ever", x.mesh(9), 5);
        Due.same("use", x.ofCell(0, 0, 1), 2);
        x.start();
        x.beat(4);
        Due.same("the most, one is left", x.beat(300), 0);
        Due.same("beats ever, of both", x.mesh(9), 10);
        Due.same("use by both", x.ofCell(1, 1, 1), 4);
        Meshes.dueResults("done", x, new int[][] {{19, 22}, {43, 50}});
    }

    private static void beatBounds() {
        Due.by("Promise 10", "Throws `IllegalArgumentException` if beats is not 1 to 300");
        Pulsemesh x = Meshes.shaped(8, 6, 8);
        x.kind(1);
        Meshes.knowAllBut(x, new int[] {4, 4});
        for (int bad : new int[] {0, 301, -1, Meshes.LEAST, Meshes.MOST}) {
            Due.refused(x, "beat(" + bad + ") without a work", Meshes.NO_VALUE, () -> x.beat(bad));
        }
        x.start();
        for (int bad : new int[] {0, 301, -1, Meshes.LEAST, Meshes.MOST}) {
            Due.refused(x, "beat(" + bad + ")", Meshes.NO_VALUE, () -> x.beat(bad));
        }
        Due.same("beat(1)", Meshes.answerOf(() -> x.beat(1)), 447);
        Due.same("beat(300)", Meshes.answerOf(() -> x.beat(300)), 147);
    }

    private static void beatWithoutWork() {
        Due.by("Promise 10", "Throws `IllegalStateException` if no work runs");
        Pulsemesh x = Meshes.twoByTwo();
        Due.refused(x, "beat(1) at first", Meshes.NOT_NOW, () -> x.beat(1));
        Due.refused(x, "beat(300) at first", Meshes.NOT_NOW, () -> x.beat(300));
        x.start();
        x.beat(5);
        Due.refused(x, "beat(1) once it ended", Meshes.NOT_NOW, () -> x.beat(1));
        Due.refused(x, "beat(300) once it ended", Meshes.NOT_NOW, () -> x.beat(300));
    }
}
