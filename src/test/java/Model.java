import java.util.ArrayList;
import java.util.Comparator;
import java.util.List;

/**
 * A second Pulsemesh, slow and plain, to compare with: operands travel from cell to cell, tiles are listed one by one,
 * layouts are sorted. It shares no code and no formula with the class.
 */
final class Model {
    int[][] a = new int[2][2];
    int[][] b = new int[2][2];
    int kind = 0;
    boolean isChecked = false;
    final boolean[][] broken = new boolean[5][5];
    final boolean[][] known = new boolean[5][5];
    final int[][] use = new int[5][5];
    int beatsEver = 0;
    int startsEver = 0;
    Run run = null;
    int[][] results = new int[0][0];
    boolean areResultsChecked = false;

    /** An operand on its way, with the number of its step. */
    private static final class Token {
        final int value;
        final int step;

        Token(int value, int step) {
            this.value = value;
            this.step = step;
        }
    }

    private static final class Tile {
        int[] rows;
        int[] columns;
        int[] meshRows;
        int[] meshColumns;

        int beats(int steps) {
            return rows.length + columns.length + steps - 1;
        }
    }

    static final class Layout {
        int rows;
        int columns;
        int beats;
        int cells;
        List<Tile> tiles;
    }

    static final class Run {
        int[][] a;
        int[][] b;
        int kind;
        boolean isChecked;
        List<Integer> steps;
        Layout layout;
        int tile = 0;
        int beat = 0;
        int left;
        Token[][] fromLeft;
        Token[][] fromTop;
        int[][] sums;
        int[][] lastSteps;
        int[][] drained;
    }

    // ---- the work

    int shape(int r, int k, int c) {
        require(within(r, 1, 8) && within(k, 1, 6) && within(c, 1, 8), "IllegalArgumentException");
        int before = 0;
        for (int[][] table : List.of(a, b)) {
            for (int[] line : table) {
                for (int value : line) {
                    before += value != 0 ? 1 : 0;
                }
            }
        }
        a = new int[r][k];
        b = new int[k][c];
        return before;
    }

    int left(int row, int column, int value) {
        return tell(a, row, column, value);
    }

    int top(int row, int column, int value) {
        return tell(b, row, column, value);
    }

    private static int tell(int[][] table, int row, int column, int value) {
        require(within(row, 0, table.length - 1) && within(column, 0, table[0].length - 1),
                "IndexOutOfBoundsException");
        require(within(value, -9, 9), "IllegalArgumentException");
        int before = table[row][column];
        table[row][column] = value;
        return before;
    }

    int kind(int newKind) {
        require(within(newKind, 0, 2), "IllegalArgumentException");
        int before = kind;
        kind = newKind;
        isChecked &= newKind == 0;
        return before;
    }

    boolean checked(boolean is) {
        require(!is || kind == 0, "IllegalStateException");
        boolean before = isChecked;
        isChecked = is;
        return before;
    }

    // ---- the mesh

    int broken(int row, int column, boolean is) {
        require(within(row, 0, 4) && within(column, 0, 4), "IndexOutOfBoundsException");
        broken[row][column] = is;
        known[row][column] &= is;
        return count(broken);
    }

    int test() {
        require(run == null, "IllegalStateException");
        int before = count(known);
        for (int row = 0; row < 5; row++) {
            known[row] = broken[row].clone();
        }
        return count(known) - before;
    }

    int start() {
        require(run == null, "IllegalStateException");
        Layout best = bestLayout();
        require(best != null, "IllegalStateException");
        run = new Run();
        run.a = wholeA();
        run.b = wholeB();
        run.kind = kind;
        run.isChecked = isChecked;
        run.steps = steps();
        run.layout = best;
        run.left = best.beats;
        run.drained = new int[run.a.length][run.b[0].length];
        results = new int[0][0];
        startsEver++;
        openTile();
        return run.left;
    }

    private void openTile() {
        run.beat = 0;
        run.fromLeft = new Token[9][10];
        run.fromTop = new Token[10][9];
        run.sums = new int[5][5];
        run.lastSteps = new int[5][5];
        Tile tile = run.layout.tiles.get(run.tile);
        for (int row = 0; row < 5; row++) {
            for (int column = 0; column < 5; column++) {
                run.lastSteps[row][column] = -1;
                boolean isIn = has(tile.meshRows, row) && has(tile.meshColumns, column);
                run.sums[row][column] = isIn ? firstSum(run.kind) : 0;
            }
        }
    }

    int beat(int beats) {
        require(within(beats, 1, 300), "IllegalArgumentException");
        require(run != null, "IllegalStateException");
        int left = run.left;
        for (int gone = 0; gone < beats && run != null; gone++) {
            oneBeat();
            left--;
        }
        return left;
    }

    private void oneBeat() {
        Tile tile = run.layout.tiles.get(run.tile);
        travel(tile);
        for (int i = 0; i < tile.rows.length; i++) {
            for (int j = 0; j < tile.columns.length; j++) {
                take(tile, i, j);
            }
        }
        beatsEver++;
        run.beat++;
        run.left--;
        if (run.beat == tile.beats(run.steps.size())) {
            closeTile(tile);
        }
    }

    /** All operands go a cell on; those of the next step come in, row i and column j that many beats late. */
    private void travel(Tile tile) {
        for (int i = 0; i < tile.rows.length; i++) {
            for (int j = tile.columns.length - 1; j > 0; j--) {
                run.fromLeft[i][j] = run.fromLeft[i][j - 1];
            }
            int step = run.beat - i;
            run.fromLeft[i][0] = within(step, 0, run.steps.size() - 1)
                    ? new Token(run.a[tile.rows[i]][run.steps.get(step)], step) : null;
        }
        for (int j = 0; j < tile.columns.length; j++) {
            for (int i = tile.rows.length - 1; i > 0; i--) {
                run.fromTop[i][j] = run.fromTop[i - 1][j];
            }
            int step = run.beat - j;
            run.fromTop[0][j] = within(step, 0, run.steps.size() - 1)
                    ? new Token(run.b[run.steps.get(step)][tile.columns[j]], step) : null;
        }
    }

    private void take(Tile tile, int i, int j) {
        Token x = run.fromLeft[i][j];
        Token y = run.fromTop[i][j];
        int row = tile.meshRows[i];
        int column = tile.meshColumns[j];
        run.lastSteps[row][column] = -1;
        if ((x == null) != (y == null) || x != null && x.step != y.step) {
            throw new AssertionError("operands do not meet");
        }
        if (x != null) {
            run.lastSteps[row][column] = x.step;
            run.sums[row][column] = joined(run.kind, run.sums[row][column], x.value, y.value)
                    + (broken[row][column] ? 1 : 0);
            use[row][column]++;
        }
    }

    private void closeTile(Tile tile) {
        for (int i = 0; i < tile.rows.length; i++) {
            for (int j = 0; j < tile.columns.length; j++) {
                run.drained[tile.rows[i]][tile.columns[j]] = run.sums[tile.meshRows[i]][tile.meshColumns[j]];
            }
        }
        run.tile++;
        if (run.tile < run.layout.tiles.size()) {
            openTile();
        } else {
            results = run.drained;
            areResultsChecked = run.isChecked;
            run = null;
        }
    }

    int bend(int row, int column, int more) {
        require(hasResult(row, column), "IndexOutOfBoundsException");
        require(within(more, -999, 999), "IllegalArgumentException");
        results[row][column] += more;
        return results[row][column];
    }

    /** Tries every value of every place: just as the words say it. */
    int check() {
        require(results.length > 0 && areResultsChecked, "IllegalStateException");
        List<Integer> rows = wrongRows();
        List<Integer> columns = wrongColumns();
        if (rows.isEmpty() && columns.isEmpty()) {
            return 0;
        }
        if (rows.size() != 1 || columns.size() != 1) {
            return 2;
        }
        int[] line = results[rows.get(0)];
        int before = line[columns.get(0)];
        int reach = 0;
        for (int[] each : results) {
            for (int value : each) {
                reach += Math.abs(value);
            }
        }
        for (int value = -reach; value <= reach; value++) {
            line[columns.get(0)] = value;
            if (isRowRight(rows.get(0)) && isColumnRight(columns.get(0))) {
                return 1;
            }
        }
        line[columns.get(0)] = before;
        return 2;
    }

    private List<Integer> wrongRows() {
        List<Integer> wrong = new ArrayList<>();
        for (int row = 0; row < results.length; row++) {
            if (!isRowRight(row)) {
                wrong.add(row);
            }
        }
        return wrong;
    }

    private List<Integer> wrongColumns() {
        List<Integer> wrong = new ArrayList<>();
        for (int column = 0; column < results[0].length; column++) {
            if (!isColumnRight(column)) {
                wrong.add(column);
            }
        }
        return wrong;
    }

    private boolean isRowRight(int row) {
        int last = results[row].length - 1;
        int sum = 0;
        for (int column = 0; column < last; column++) {
            sum += results[row][column];
        }
        return sum == results[row][last];
    }

    private boolean isColumnRight(int column) {
        int last = results.length - 1;
        int sum = 0;
        for (int row = 0; row < last; row++) {
            sum += results[row][column];
        }
        return sum == results[last][column];
    }

    // ---- what is asked

    int mesh(int what) {
        require(within(what, 0, 15), "IllegalArgumentException");
        int skipped = (1 << b.length) - 1;
        for (int t : steps()) {
            skipped -= 1 << t;
        }
        int[] answers = {a.length, b.length, b[0].length, kind, isChecked ? 1 : 0, steps().size(), skipped,
            count(broken), count(known), beatsEver, startsEver, run == null ? 0 : 1, run == null ? 0 : run.left,
            run == null ? -1 : run.tile, results.length, results.length == 0 ? 0 : results[0].length};
        return answers[what];
    }

    int ofCell(int row, int column, int what) {
        require(within(row, 0, 4) && within(column, 0, 4), "IndexOutOfBoundsException");
        require(within(what, 0, 3), "IllegalArgumentException");
        int state = known[row][column] ? 2 : broken[row][column] ? 1 : 0;
        int[] answers = {state, use[row][column], run == null ? 0 : run.sums[row][column],
            run == null ? -1 : run.lastSteps[row][column]};
        return answers[what];
    }

    int result(int row, int column) {
        require(hasResult(row, column), "IndexOutOfBoundsException");
        return results[row][column];
    }

    int plain(int row, int column) {
        int[][] left = wholeA();
        int[][] top = wholeB();
        require(within(row, 0, left.length - 1) && within(column, 0, top[0].length - 1),
                "IndexOutOfBoundsException");
        int sum = joined(kind, firstSum(kind), left[row][0], top[0][column]);
        for (int t = 1; t < top.length; t++) {
            sum = joined(kind, sum, left[row][t], top[t][column]);
        }
        return sum;
    }

    String row(int row) {
        require(within(row, 0, 4), "IndexOutOfBoundsException");
        String text = "";
        for (int column = 0; column < 5; column++) {
            boolean isLaid = run != null && has(membersOf(run.layout.rows), row)
                    && has(membersOf(run.layout.columns), column);
            text += known[row][column] ? "x" : broken[row][column] ? "?" : isLaid ? "o" : ".";
        }
        return text;
    }

    int beats(int rows, int columns) {
        require(within(rows, 1, 31) && within(columns, 1, 31), "IllegalArgumentException");
        Layout layout = layout(rows, columns);
        return layout == null ? -1 : layout.beats;
    }

    int best(int what) {
        require(within(what, 0, 4), "IllegalArgumentException");
        Layout best = bestLayout();
        if (best == null) {
            return -1;
        }
        int fed = 0;
        for (Tile tile : best.tiles) {
            for (int s = 0; s < steps().size(); s++) {
                fed += tile.rows.length + tile.columns.length;
            }
        }
        return new int[] {best.beats, best.rows, best.columns, best.tiles.size(), fed}[what];
    }

    int saved() {
        Layout best = bestLayout();
        int saved = 0;
        if (best != null) {
            for (Tile tile : best.tiles) {
                saved += tile.beats(b.length) - tile.beats(steps().size());
            }
        }
        return saved;
    }

    // ---- parts

    static final class Refusal extends RuntimeException {
        private static final long serialVersionUID = 1L;

        Refusal(String name) {
            super(name);
        }
    }

    private static void require(boolean holds, String exception) {
        if (!holds) {
            throw new Refusal("java.lang." + exception);
        }
    }

    private static boolean within(int number, int least, int most) {
        return number >= least && number <= most;
    }

    private static boolean has(int[] numbers, int number) {
        for (int each : numbers) {
            if (each == number) {
                return true;
            }
        }
        return false;
    }

    private static int count(boolean[][] cells) {
        int count = 0;
        for (boolean[] line : cells) {
            for (boolean is : line) {
                count += is ? 1 : 0;
            }
        }
        return count;
    }

    private boolean hasResult(int row, int column) {
        return results.length > 0 && within(row, 0, results.length - 1) && within(column, 0, results[0].length - 1);
    }

    private static int firstSum(int kind) {
        return new int[] {0, 999, -999}[kind];
    }

    private static int joined(int kind, int sum, int x, int y) {
        if (kind == 0) {
            return sum + x * y;
        }
        if (kind == 1) {
            return x + y < sum ? x + y : sum;
        }
        int lesser = x < y ? x : y;
        return lesser > sum ? lesser : sum;
    }

    private int[][] wholeA() {
        int r = a.length;
        int[][] whole = new int[isChecked ? r + 1 : r][b.length];
        for (int i = 0; i < r; i++) {
            for (int t = 0; t < b.length; t++) {
                whole[i][t] = a[i][t];
                if (isChecked) {
                    whole[r][t] += a[i][t];
                }
            }
        }
        return whole;
    }

    private int[][] wholeB() {
        int c = b[0].length;
        int[][] whole = new int[b.length][isChecked ? c + 1 : c];
        for (int t = 0; t < b.length; t++) {
            for (int j = 0; j < c; j++) {
                whole[t][j] = b[t][j];
                if (isChecked) {
                    whole[t][c] += b[t][j];
                }
            }
        }
        return whole;
    }

    /** The t that are not skipped. */
    private List<Integer> steps() {
        List<Integer> steps = new ArrayList<>();
        for (int t = 0; t < b.length; t++) {
            int inA = 0;
            for (int[] line : a) {
                inA += line[t] * line[t];
            }
            int inB = 0;
            for (int value : b[t]) {
                inB += value * value;
            }
            if (kind != 0 || inA * inB > 0) {
                steps.add(t);
            }
        }
        if (steps.isEmpty()) {
            steps.add(b.length - 1);
        }
        return steps;
    }

    private static int[] membersOf(int set) {
        int[] members = new int[Integer.bitCount(set)];
        int found = 0;
        for (int member = 0; member < 5; member++) {
            if ((set & 1 << member) != 0) {
                members[found++] = member;
            }
        }
        return members;
    }

    private static int[] fromTo(int first, int end) {
        int[] numbers = new int[end - first];
        for (int i = 0; i < numbers.length; i++) {
            numbers[i] = first + i;
        }
        return numbers;
    }

    private Layout layout(int rows, int columns) {
        int[] meshRows = membersOf(rows);
        int[] meshColumns = membersOf(columns);
        for (int row : meshRows) {
            for (int column : meshColumns) {
                if (known[row][column]) {
                    return null;
                }
            }
        }
        Layout layout = new Layout();
        layout.rows = rows;
        layout.columns = columns;
        layout.cells = meshRows.length * meshColumns.length;
        layout.tiles = new ArrayList<>();
        int rowsInAll = a.length + (isChecked ? 1 : 0);
        int columnsInAll = b[0].length + (isChecked ? 1 : 0);
        for (int row = 0; row < rowsInAll; row += meshRows.length) {
            for (int column = 0; column < columnsInAll; column += meshColumns.length) {
                Tile tile = new Tile();
                tile.rows = fromTo(row, Math.min(row + meshRows.length, rowsInAll));
                tile.columns = fromTo(column, Math.min(column + meshColumns.length, columnsInAll));
                tile.meshRows = java.util.Arrays.copyOf(meshRows, tile.rows.length);
                tile.meshColumns = java.util.Arrays.copyOf(meshColumns, tile.columns.length);
                layout.tiles.add(tile);
                layout.beats += tile.beats(steps().size());
            }
        }
        return layout;
    }

    private Layout bestLayout() {
        List<Layout> all = new ArrayList<>();
        for (int columns = 31; columns >= 1; columns--) {
            for (int rows = 31; rows >= 1; rows--) {
                Layout layout = layout(rows, columns);
                if (layout != null) {
                    all.add(layout);
                }
            }
        }
        all.sort(Comparator.<Layout>comparingInt(x -> x.beats).thenComparingInt(x -> x.cells)
                .thenComparingInt(x -> x.rows).thenComparingInt(x -> x.columns));
        return all.isEmpty() ? null : all.get(0);
    }

    long digest() {
        long d = 5659;
        for (int what = 0; what <= 15; what++) {
            d = d * 31 + mesh(what);
        }
        for (int cell = 0; cell < 25; cell++) {
            for (int what = 0; what <= 3; what++) {
                d = d * 31 + ofCell(cell / 5, cell % 5, what);
            }
        }
        for (int[] line : results) {
            for (int value : line) {
                d = d * 31 + value;
            }
        }
        for (int i = 0; i < wholeA().length; i++) {
            for (int j = 0; j < wholeB()[0].length; j++) {
                d = d * 31 + plain(i, j);
            }
        }
        for (int what = 0; what <= 4; what++) {
            d = d * 31 + best(what);
        }
        return (d * 31 + saved()) * 31 + 1;
    }
}
