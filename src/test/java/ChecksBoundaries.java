/** The edges of part 4 of the document, and of promises 11, 12 and 15. */
final class ChecksBoundaries {
    private static final String CHECKS = "4. Checks";

    private ChecksBoundaries() {
    }

    static void run() {
        Due.each(
                ChecksBoundaries::noneAtFirst,
                ChecksBoundaries::startedLast,
                ChecksBoundaries::noneWhileOneRuns,
                ChecksBoundaries::bentAgainAndAgain,
                ChecksBoundaries::bentForThatWorkAlone,
                ChecksBoundaries::wrongRow,
                ChecksBoundaries::wrongColumn,
                ChecksBoundaries::lastLinesLikeTheOthers,
                ChecksBoundaries::lastLinesAlone,
                ChecksBoundaries::allRight,
                ChecksBoundaries::errorsThatHide,
                ChecksBoundaries::smallerThanTheLast,
                ChecksBoundaries::mendedAnywhere,
                ChecksBoundaries::mendedInTheSmallest,
                ChecksBoundaries::mendedInTheLargest,
                ChecksBoundaries::mendedAfterABrokenCell,
                ChecksBoundaries::otherwiseTwo,
                ChecksBoundaries::valueWhereTheyCross,
                ChecksBoundaries::bendReturns,
                ChecksBoundaries::bendPlaces,
                ChecksBoundaries::bendValues,
                ChecksBoundaries::checkReturns,
                ChecksBoundaries::checkWithoutResults,
                ChecksBoundaries::resultPlaces,
                ChecksBoundaries::resultReturns);
    }

    /** Of one row and one column: A is 3, B is 5, so that all four results are 15. */
    private static Pulsemesh smallestDone() {
        Pulsemesh x = Meshes.shaped(1, 1, 1);
        Meshes.tellAll(x, 3, 5);
        x.checked(true);
        Meshes.runThrough(x);
        return x;
    }

    private static Pulsemesh largestDone() {
        Pulsemesh x = Meshes.shaped(8, 2, 8);
        for (int line = 0; line < 8; line++) {
            x.left(line, 0, line - 3);
            x.top(1, line, 2 * line - 5);
            x.left(line, 1, 9 - line);
            x.top(0, line, line);
        }
        x.checked(true);
        Meshes.runThrough(x);
        return x;
    }

    // ---- 4. Checks

    private static void noneAtFirst() {
        Due.by(CHECKS, "RESULTS are those of the work that was STARTED last, once it ended");
        Pulsemesh x = Meshes.twoByTwo();
        Meshes.dueNoResults("at first", x);
        x.start();
        Meshes.dueNoResults("started", x);
        x.beat(4);
        Meshes.dueNoResults("one beat ahead of the end", x);
        x.beat(1);
        Meshes.dueResults("ended", x, new int[][] {{19, 22}, {43, 50}});
    }

    private static void startedLast() {
        Due.by(CHECKS, "those of the work that was STARTED last");
        Pulsemesh x = Meshes.twoByTwoDone(true);
        x.shape(1, 1, 3);
        x.checked(false);
        Meshes.tellAll(x, -2, 4);
        Meshes.dueResults("another one is told", x, new int[][] {{19, 22, 41}, {43, 50, 93}, {62, 72, 134}});
        Meshes.runThrough(x);
        Meshes.dueResults("another one ended", x, new int[][] {{-8, -8, -8}});
        Due.refused(x, "a row of the one ahead", Meshes.NO_PLACE, () -> x.result(1, 0));
        x.shape(3, 1, 1);
        Meshes.runThrough(x);
        Meshes.dueResults("of noughts", x, new int[][] {{0}, {0}, {0}});
        Due.refused(x, "a column of the one ahead", Meshes.NO_PLACE, () -> x.result(0, 1));
    }

    private static void noneWhileOneRuns() {
        Due.by(CHECKS, "(while one runs, there are none)");
        Pulsemesh x = Meshes.twoByTwoDone(true);
        for (int left = x.start(); left > 0; left = x.beat(1)) {
            Meshes.dueNoResults("with " + left + " left", x);
            Due.refused(x, "bend with beats left", Meshes.NO_PLACE, () -> x.bend(0, 0, 1));
            Due.refused(x, "check with beats left", Meshes.NOT_NOW, () -> x.check());
        }
        Due.same("then they are there", Meshes.answerOf(() -> x.check()), 0);
    }

    private static void bentAgainAndAgain() {
        Due.by(CHECKS, "they can be BENT (so much more)");
        Pulsemesh x = smallestDone();
        for (int times = 1; times <= 400; times++) {
            int more = times % 2 == 0 ? 999 : 998;
            Due.same("bent " + times + " times", x.bend(1, 1, more), 15 + 998 * times + times / 2);
        }
        Due.same("the others are as they were", x.result(0, 1), 15);
        Due.same("and it is mended", x.check(), 1);
        Due.same("to what it was", x.result(1, 1), 15);
    }

    private static void bentForThatWorkAlone() {
        Due.by(CHECKS, "can be BENT");
        Pulsemesh x = Meshes.twoByTwoDone(true);
        x.bend(2, 2, -999);
        Due.same("plain is not bent", x.plain(2, 2), 134);
        Meshes.runThrough(x);
        Meshes.dueResults("the next ones", x, new int[][] {{19, 22, 41}, {43, 50, 93}, {62, 72, 134}});
    }

    private static void wrongRow() {
        Due.by(CHECKS, "a row of RESULTS (without the last one) is WRONG, if they are together not the last one of it");
        for (int row = 0; row <= 2; row++) {
            for (int other = 0; other <= 2; other++) {
                for (int column = 0; column <= 2; column++) {
                    if (other != row) {
                        dueTwoWrongLines(new int[][] {{row, column}, {other, column}});
                    }
                }
            }
        }
    }

    private static void wrongColumn() {
        Due.by(CHECKS, "a column likewise");
        for (int column = 0; column <= 2; column++) {
            for (int other = 0; other <= 2; other++) {
                for (int row = 0; row <= 2; row++) {
                    if (other != column) {
                        dueTwoWrongLines(new int[][] {{row, column}, {row, other}});
                    }
                }
            }
        }
    }

    /** Two results of one line are bent so that this line is right: the two lines across are wrong alone. */
    private static void dueTwoWrongLines(int[][] places) {
        boolean isInRow = places[0][0] == places[1][0];
        int first = isInRow ? places[0][1] : places[0][0];
        int second = isInRow ? places[1][1] : places[1][0];
        Pulsemesh x = Meshes.twoByTwoDone(true);
        x.bend(places[0][0], places[0][1], 7);
        // The last one of a line is the sum, so that it moves with the others.
        x.bend(places[1][0], places[1][1], first == 2 || second == 2 ? 7 : -7);
        Due.same("bent at " + first + " and " + second + (isInRow ? " of row " + places[0][0] : " of column "
                + places[0][1]), x.check(), 2);
        x.bend(places[1][0], places[1][1], first == 2 || second == 2 ? -7 : 7);
        Due.same("one of both is bent back", x.check(), 1);
    }

    private static void lastLinesLikeTheOthers() {
        Due.by(CHECKS, "the last row and the last column are looked at like the others");
        for (int place = 0; place <= 2; place++) {
            Pulsemesh x = Meshes.twoByTwoDone(true);
            x.bend(2, place, 1);
            Due.same("the last row is wrong, " + place, x.check(), 1);
            x.bend(place, 2, 1);
            Due.same("the last column is wrong, " + place, x.check(), 1);
            Meshes.dueResults("mended", x, new int[][] {{19, 22, 41}, {43, 50, 93}, {62, 72, 134}});
        }
    }

    private static void lastLinesAlone() {
        Due.by(CHECKS, "the last row and the last column");
        Pulsemesh x = Meshes.twoByTwoDone(true);
        // Row 0 and the last row, by one column that hides both.
        x.bend(0, 1, 5);
        x.bend(2, 1, 5);
        Due.same("row 0 and the last row", x.check(), 2);
        x.bend(2, 1, -5);
        Due.same("row 0 alone", x.check(), 1);
        x.bend(1, 0, 5);
        x.bend(1, 2, 5);
        Due.same("column 0 and the last column", x.check(), 2);
        x.bend(1, 2, -5);
        Due.same("column 0 alone", x.check(), 1);
    }

    private static void allRight() {
        Due.by(CHECKS, "All right: 0.");
        Due.same("two by two", Meshes.twoByTwoDone(true).check(), 0);
        Due.same("the smallest", smallestDone().check(), 0);
        Due.same("the largest", largestDone().check(), 0);
        Pulsemesh x = Meshes.shaped(8, 6, 8);
        x.checked(true);
        Meshes.runThrough(x);
        Due.same("noughts", x.check(), 0);
        x.bend(8, 8, 0);
        Due.same("bent by nothing", x.check(), 0);
    }

    private static void errorsThatHide() {
        Due.by(CHECKS, "is WRONG, if they are together not the last one of it; a column likewise");
        Pulsemesh x = Meshes.twoByTwoDone(true);
        x.bend(0, 0, 4);
        x.bend(0, 2, 4);
        x.bend(2, 0, 4);
        x.bend(2, 2, 4);
        Due.same("no line is wrong", x.check(), 0);
        Meshes.dueResults("nothing is mended", x, new int[][] {{23, 22, 45}, {43, 50, 93}, {66, 72, 138}});
    }

    private static void smallerThanTheLast() {
        Due.by(CHECKS, "a row of RESULTS (without the last one)");
        Pulsemesh x = largestDone();
        x.shape(2, 2, 2);
        Meshes.tellAll(x, 3, -2);
        Meshes.runThrough(x);
        Due.same("what stood beyond the results is not looked at", x.check(), 0);
        x.bend(2, 0, 1);
        Due.same("nor is it in the way of mending", x.check(), 1);
        Meshes.dueResults("mended", x, new int[][] {{-12, -12, -24}, {-12, -12, -24}, {-24, -24, -48}});
    }

    private static void mendedAnywhere() {
        Due.by(CHECKS, "If just one row and one column are WRONG, and there is a value for the RESULT where"
                + " they cross by"
                + " which neither is WRONG, it is MENDED to that: 1.");
        for (int place = 0; place < 9; place++) {
            for (int more : new int[] {-999, -1, 1, 999}) {
                Pulsemesh x = Meshes.twoByTwoDone(true);
                x.bend(place / 3, place % 3, more);
                Due.same("bent by " + more + " at " + place, x.check(), 1);
                Meshes.dueResults("mended", x, new int[][] {{19, 22, 41}, {43, 50, 93}, {62, 72, 134}});
                Due.same("and right", x.check(), 0);
            }
        }
    }

    private static void mendedInTheSmallest() {
        Due.by(CHECKS, "it is MENDED to that: 1");
        for (int place = 0; place < 4; place++) {
            Pulsemesh x = smallestDone();
            x.bend(place / 2, place % 2, -15);
            Due.same("bent to 0 at " + place, x.check(), 1);
            Meshes.dueResults("mended", x, new int[][] {{15, 15}, {15, 15}});
        }
    }

    private static void mendedInTheLargest() {
        Due.by(CHECKS, "there is a value for the RESULT where they cross by which neither is WRONG");
        for (int row = 0; row <= 8; row += 4) {
            Pulsemesh x = largestDone();
            for (int column = 0; column <= 8; column++) {
                x.bend(row, column, 123);
                Due.same("bent at " + row + " and " + column, x.check(), 1);
                Due.same("mended", x.result(row, column), x.plain(row, column));
                Due.same("and right", x.check(), 0);
            }
        }
    }

    private static void mendedAfterABrokenCell() {
        Due.by(CHECKS, "If just one row and one column are WRONG");
        for (int cell = 0; cell < 9; cell++) {
            Pulsemesh x = Meshes.twoByTwo();
            x.checked(true);
            x.broken(cell / 3, cell % 3, true);
            Meshes.runThrough(x);
            Due.same("wrong by a broken cell " + cell, x.result(cell / 3, cell % 3), x.plain(cell / 3, cell % 3) + 2);
            Due.same("check", x.check(), 1);
            Meshes.dueResults("mended", x, new int[][] {{19, 22, 41}, {43, 50, 93}, {62, 72, 134}});
        }
    }

    private static void otherwiseTwo() {
        Due.by(CHECKS, "Otherwise 2.");
        dueTwo("two rows, two columns", new int[][] {{0, 0, 1}, {1, 1, 1}});
        dueTwo("two rows, one column", new int[][] {{0, 0, 1}, {1, 0, 1}});
        dueTwo("one row, two columns", new int[][] {{0, 0, 1}, {0, 1, 1}});
        dueTwo("two rows, no column", new int[][] {{0, 0, 1}, {1, 0, -1}});
        dueTwo("no row, two columns", new int[][] {{0, 0, 1}, {0, 1, -1}});
        // Of three wrong lines two hide each other: a value for one place would leave them wrong.
        dueTwo("three rows, one column", new int[][] {{0, 0, 1}, {1, 0, -1}, {2, 0, 1}});
        dueTwo("one row, three columns", new int[][] {{0, 0, 1}, {0, 1, -1}, {0, 2, 1}});
        dueTwo("all", new int[][] {{0, 0, 1}, {1, 1, 1}, {2, 2, 1}});
    }

    private static void dueTwo(String what, int[][] bends) {
        Pulsemesh x = Meshes.twoByTwoDone(true);
        for (int[] bend : bends) {
            x.bend(bend[0], bend[1], bend[2]);
        }
        long before = x.digest();
        Due.same(what, x.check(), 2);
        Due.same(what + ": nothing is mended", x.digest(), before);
        Due.same(what + ": it stays so", x.check(), 2);
    }

    /** Three errors that leave one row and one column wrong: the value where they cross makes both right. */
    private static void valueWhereTheyCross() {
        Due.by(CHECKS, "and there is a value for the RESULT where they cross");
        Pulsemesh x = Meshes.twoByTwoDone(true);
        x.bend(0, 0, 6);
        x.bend(0, 2, 6);
        x.bend(2, 0, 6);
        Due.same("the last row and the last column are wrong", x.check(), 1);
        Meshes.dueResults("the corner is mended", x, new int[][] {{25, 22, 47}, {43, 50, 93}, {68, 72, 140}});
        Pulsemesh y = Meshes.twoByTwoDone(true);
        y.bend(0, 2, 6);
        y.bend(2, 0, 6);
        y.bend(2, 2, 6);
        Due.same("row 0 and column 0 are wrong", y.check(), 1);
        Meshes.dueResults("(0, 0) is mended", y, new int[][] {{25, 22, 47}, {43, 50, 93}, {68, 72, 140}});
        Pulsemesh z = Meshes.twoByTwoDone(true);
        z.bend(0, 0, 6);
        z.bend(2, 0, 6);
        z.bend(2, 2, 6);
        Due.same("row 0 and the last column are wrong", z.check(), 1);
        Meshes.dueResults("(0, 2) is mended", z, new int[][] {{25, 22, 47}, {43, 50, 93}, {68, 72, 140}});
    }

    // ---- Promises 11, 12 and 15

    private static void bendReturns() {
        Due.by("Promise 11", "Returns the RESULT then.");
        Pulsemesh x = smallestDone();
        Due.same("by 0", x.bend(0, 0, 0), 15);
        Due.same("by 999", x.bend(0, 0, 999), 1014);
        Due.same("by -999", x.bend(0, 0, -999), 15);
        Due.same("by -999 again", x.bend(0, 0, -999), -984);
        Due.same("the result", x.result(0, 0), -984);
    }

    private static void bendPlaces() {
        Due.by("Promise 11", "Throws `IndexOutOfBoundsException` if there is no such RESULT");
        Pulsemesh x = Meshes.shaped(1, 1, 8);
        Due.refused(x, "bend at first", Meshes.NO_PLACE, () -> x.bend(0, 0, 1));
        Meshes.runThrough(x);
        x.shape(8, 1, 1);
        duePlacesToBend(x, 1, 8);
        Meshes.runThrough(x);
        duePlacesToBend(x, 8, 1);
        x.checked(true);
        duePlacesToBend(x, 8, 1);
        Meshes.runThrough(x);
        duePlacesToBend(x, 9, 2);
        x.start();
        Due.refused(x, "bend while one runs", Meshes.NO_PLACE, () -> x.bend(0, 0, 1));
    }

    private static void duePlacesToBend(Pulsemesh x, int rows, int columns) {
        for (int bad : new int[] {-1, rows, Meshes.LEAST, Meshes.MOST}) {
            Due.refused(x, "row " + bad, Meshes.NO_PLACE, () -> x.bend(bad, 0, 1));
        }
        for (int bad : new int[] {-1, columns, Meshes.LEAST, Meshes.MOST}) {
            Due.refused(x, "column " + bad, Meshes.NO_PLACE, () -> x.bend(0, bad, 1));
        }
        Due.same("the last one", Meshes.answerOf(() -> x.bend(rows - 1, columns - 1, 0)), 0);
    }

    private static void bendValues() {
        Due.by("Promise 11", "Throws `IllegalArgumentException` if more is not -999 to 999");
        Pulsemesh x = smallestDone();
        for (int bad : new int[] {-1000, 1000, Meshes.LEAST, Meshes.MOST}) {
            Due.refused(x, "more of " + bad, Meshes.NO_VALUE, () -> x.bend(1, 1, bad));
        }
        Due.same("-999", Meshes.answerOf(() -> x.bend(1, 1, -999)), -984);
        Due.same("999", Meshes.answerOf(() -> x.bend(1, 1, 999)), 15);
    }

    private static void checkReturns() {
        Due.by("Promise 12", "Returns 0, 1 (and MENDS it) or 2.");
        Pulsemesh x = Meshes.twoByTwoDone(true);
        Due.same("right", x.check(), 0);
        x.bend(1, 1, 1);
        Due.same("one error", x.check(), 1);
        Due.same("mended", x.result(1, 1), 50);
        x.bend(1, 1, 1);
        x.bend(0, 0, 1);
        Due.same("two errors", x.check(), 2);
        Due.same("nothing is mended", x.result(1, 1), 51);
        x.bend(0, 0, -1);
        Due.same("one of both is left", x.check(), 1);
        Due.same("right again", x.check(), 0);
    }

    private static void checkWithoutResults() {
        Due.by("Promise 12", "Throws `IllegalStateException` if there are no RESULTS, or they are of no CHECKED work");
        Pulsemesh x = Meshes.twoByTwo();
        Due.refused(x, "check at first", Meshes.NOT_NOW, () -> x.check());
        x.checked(true);
        Due.refused(x, "check of what is but told", Meshes.NOT_NOW, () -> x.check());
        x.start();
        Due.refused(x, "check of the first one that runs", Meshes.NOT_NOW, () -> x.check());
        x.beat(7);
        Due.same("check once it ended", Meshes.answerOf(() -> x.check()), 0);
        x.start();
        x.beat(6);
        Due.refused(x, "check ahead of the last beat", Meshes.NOT_NOW, () -> x.check());
        x.beat(1);
        for (int kind = 0; kind <= 2; kind++) {
            x.kind(kind);
            Due.same("check of the one that ended, by kind " + kind, Meshes.answerOf(() -> x.check()), 0);
        }
        Meshes.runThrough(x);
        Due.refused(x, "check of kind 2", Meshes.NOT_NOW, () -> x.check());
        x.kind(0);
        Meshes.runThrough(x);
        x.checked(true);
        Due.refused(x, "check of kind 0 that is not checked", Meshes.NOT_NOW, () -> x.check());
    }

    private static void resultPlaces() {
        Due.by("Promise 15", "Throws `IndexOutOfBoundsException` if there is no such RESULT");
        Pulsemesh x = Meshes.shaped(1, 1, 8);
        Due.refused(x, "result at first", Meshes.NO_PLACE, () -> x.result(0, 0));
        Meshes.runThrough(x);
        x.shape(8, 1, 1);
        duePlacesOfResults(x, 1, 8);
        Meshes.runThrough(x);
        duePlacesOfResults(x, 8, 1);
        x.checked(true);
        duePlacesOfResults(x, 8, 1);
        Meshes.runThrough(x);
        duePlacesOfResults(x, 9, 2);
        x.start();
        Due.refused(x, "result while one runs", Meshes.NO_PLACE, () -> x.result(0, 0));
    }

    private static void duePlacesOfResults(Pulsemesh x, int rows, int columns) {
        for (int bad : new int[] {-1, rows, Meshes.LEAST, Meshes.MOST}) {
            Due.refused(x, "row " + bad, Meshes.NO_PLACE, () -> x.result(bad, 0));
        }
        for (int bad : new int[] {-1, columns, Meshes.LEAST, Meshes.MOST}) {
            Due.refused(x, "column " + bad, Meshes.NO_PLACE, () -> x.result(0, bad));
        }
        Due.same("the last one", Meshes.answerOf(() -> x.result(rows - 1, columns - 1)), 0);
    }

    private static void resultReturns() {
        Due.by("Promise 15", "Returns the RESULT.");
        Pulsemesh x = largestDone();
        for (int i = 0; i <= 8; i++) {
            for (int j = 0; j <= 8; j++) {
                Due.same("result of " + i + " and " + j, x.result(i, j), x.plain(i, j));
            }
        }
    }
}
