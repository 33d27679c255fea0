/** What many tests do with a Pulsemesh. */
final class Meshes {
    static final Class<IndexOutOfBoundsException> NO_PLACE = IndexOutOfBoundsException.class;
    static final Class<IllegalArgumentException> NO_VALUE = IllegalArgumentException.class;
    static final Class<IllegalStateException> NOT_NOW = IllegalStateException.class;
    static final int LEAST = Integer.MIN_VALUE;
    static final int MOST = Integer.MAX_VALUE;

    private Meshes() {
    }

    static Pulsemesh shaped(int r, int k, int c) {
        Pulsemesh x = new Pulsemesh();
        x.shape(r, k, c);
        return x;
    }

    static void tellLeft(Pulsemesh x, int[][] a) {
        for (int i = 0; i < a.length; i++) {
            for (int t = 0; t < a[i].length; t++) {
                x.left(i, t, a[i][t]);
            }
        }
    }

    static void tellTop(Pulsemesh x, int[][] b) {
        for (int t = 0; t < b.length; t++) {
            for (int j = 0; j < b[t].length; j++) {
                x.top(t, j, b[t][j]);
            }
        }
    }

    /** All operands are that value then. */
    static void tellAll(Pulsemesh x, int ofLeft, int ofTop) {
        int k = x.mesh(1);
        for (int i = x.mesh(0) - 1; i >= 0; i--) {
            for (int t = 0; t < k; t++) {
                x.left(i, t, ofLeft);
            }
        }
        for (int j = x.mesh(2) - 1; j >= 0; j--) {
            for (int t = 0; t < k; t++) {
                x.top(t, j, ofTop);
            }
        }
    }

    /** A of 1 2, 3 4 and B of 5 6, 7 8: the results are 19 22, 43 50. */
    static Pulsemesh twoByTwo() {
        Pulsemesh x = new Pulsemesh();
        tellLeft(x, new int[][] {{1, 2}, {3, 4}});
        tellTop(x, new int[][] {{5, 6}, {7, 8}});
        return x;
    }

    static Pulsemesh twoByTwoDone(boolean isChecked) {
        Pulsemesh x = twoByTwo();
        x.checked(isChecked);
        runThrough(x);
        return x;
    }

    static void runThrough(Pulsemesh x) {
        x.start();
        runOut(x);
    }

    static void runOut(Pulsemesh x) {
        // No work has more than 567 beats.
        for (int go = 0; go < 3 && x.mesh(11) == 1; go++) {
            x.beat(300);
        }
    }

    static void breakAll(Pulsemesh x) {
        for (int cell = 0; cell < 25; cell++) {
            x.broken(cell / 5, cell % 5, true);
        }
    }

    static void mendAll(Pulsemesh x) {
        for (int cell = 0; cell < 25; cell++) {
            x.broken(cell / 5, cell % 5, false);
        }
    }

    /** All cells are KNOWN then, but those (row and column). */
    static void knowAllBut(Pulsemesh x, int[]... whole) {
        breakAll(x);
        x.test();
        for (int[] cell : whole) {
            x.broken(cell[0], cell[1], false);
        }
    }

    /** The cells as they are drawn, in the way that row() tells them: "." whole, "x" KNOWN. */
    static void draw(Pulsemesh x, String... rows) {
        for (int cell = 0; cell < 25; cell++) {
            x.broken(cell / 5, cell % 5, rows[cell / 5].charAt(cell % 5) == 'x');
        }
        x.test();
    }

    static void dueMesh(String when, Pulsemesh x, int... wants) {
        for (int what = 0; what < wants.length; what++) {
            Due.same(when + ": mesh(" + what + ")", x.mesh(what), wants[what]);
        }
    }

    static void dueBest(String when, Pulsemesh x, int... wants) {
        for (int what = 0; what < wants.length; what++) {
            Due.same(when + ": best(" + what + ")", x.best(what), wants[what]);
        }
    }

    static void dueResults(String when, Pulsemesh x, int[][] wants) {
        Due.same(when + ": rows of results", x.mesh(14), wants.length);
        Due.same(when + ": columns of results", x.mesh(15), wants[0].length);
        for (int i = 0; i < wants.length; i++) {
            for (int j = 0; j < wants[i].length; j++) {
                int row = i;
                int column = j;
                Due.same(when + ": result(" + i + ", " + j + ")", answerOf(() -> x.result(row, column)), wants[i][j]);
            }
        }
    }

    static void dueNoResults(String when, Pulsemesh x) {
        Due.same(when + ": rows of results", x.mesh(14), 0);
        Due.same(when + ": columns of results", x.mesh(15), 0);
        Due.refused(x, when + ": result(0, 0)", NO_PLACE, () -> x.result(0, 0));
    }

    static void duePlain(String when, Pulsemesh x, int[][] wants) {
        for (int i = 0; i < wants.length; i++) {
            for (int j = 0; j < wants[i].length; j++) {
                int row = i;
                int column = j;
                Due.same(when + ": plain(" + i + ", " + j + ")", answerOf(() -> x.plain(row, column)), wants[i][j]);
            }
        }
        Due.refused(x, when + ": plain of a row more", NO_PLACE, () -> x.plain(wants.length, 0));
        Due.refused(x, when + ": plain of a column more", NO_PLACE, () -> x.plain(0, wants[0].length));
    }

    static void dueRows(String when, Pulsemesh x, String... wants) {
        for (int row = 0; row < wants.length; row++) {
            Due.same(when + ": row(" + row + ")", x.row(row), wants[row]);
        }
    }

    /** An answer, or the name of what was thrown, so that one wrong call does not end all tests. */
    static Object answerOf(Due.Call call) {
        try {
            return call.answer();
        } catch (RuntimeException e) {
            return "throws " + e.getClass().getName();
        }
    }
}
