/**
 * A mesh of 5 times 5 cells that reckons tables of operands beat by beat, as ../shared/DOC.md tells.
 *
 * <p>All tables are made with the object and used again, so that calls keep nothing new.
 */
public final class Pulsemesh {
    private static final int NONE = -1;
    private static final int MESH_SIDE = 5;
    private static final int ALL_LINES = 31;
    private static final int MOST_LINES = 8;
    private static final int MOST_TERMS = 6;
    private static final int MOST_OPERAND = 9;
    private static final int MOST_BEND = 999;
    private static final int MOST_BEATS = 300;

    private static final int PRODUCTS = 0;
    private static final int LEAST = 1;
    private static final int GREATEST = 2;

    private static final int WHOLE = 0;
    private static final int BROKEN_UNKNOWN = 1;
    private static final int KNOWN = 2;

    private static final int LAST_MESH_QUESTION = 15;
    private static final int LAST_CELL_QUESTION = 3;
    private static final int LAST_BEST_QUESTION = 4;

    private static final int DIGEST_START = 5659;
    private static final int DIGEST_FACTOR = 31;

    private final Job told = new Job();
    private final Cells cells = new Cells();
    private final Results results = new Results();
    private final Work work = new Work();
    private final Layout chosen = new Layout();
    private final Layout tried = new Layout();

    public Pulsemesh() {
    }

    // ---- the work

    public int shape(int r, int k, int c) throws IllegalArgumentException {
        if (r < 1 || r > MOST_LINES || c < 1 || c > MOST_LINES || k < 1 || k > MOST_TERMS) {
            throw new IllegalArgumentException("r and c are 1 to 8, k is 1 to 6");
        }
        int before = told.countOperands();
        told.reshape(r, k, c);
        return before;
    }

    public int left(int row, int column, int value) throws IndexOutOfBoundsException, IllegalArgumentException {
        if (row < 0 || row >= told.r || column < 0 || column >= told.k) {
            throw new IndexOutOfBoundsException("A has no such row or column");
        }
        if (!isOperand(value)) {
            throw new IllegalArgumentException("an operand is -9 to 9");
        }
        int before = told.a.get(row, column);
        told.a.set(row, column, value);
        return before;
    }

    public int top(int row, int column, int value) throws IndexOutOfBoundsException, IllegalArgumentException {
        if (row < 0 || row >= told.k || column < 0 || column >= told.c) {
            throw new IndexOutOfBoundsException("B has no such row or column");
        }
        if (!isOperand(value)) {
            throw new IllegalArgumentException("an operand is -9 to 9");
        }
        int before = told.b.get(row, column);
        told.b.set(row, column, value);
        return before;
    }

    public int kind(int kind) throws IllegalArgumentException {
        if (kind < PRODUCTS || kind > GREATEST) {
            throw new IllegalArgumentException("a kind is 0 to 2");
        }
        int before = told.reckoning;
        told.reckoning = kind;
        if (kind != PRODUCTS) {
            told.hasSums = false;
        }
        return before;
    }

    public boolean checked(boolean is) throws IllegalStateException {
        if (is && told.reckoning != PRODUCTS) {
            throw new IllegalStateException("only sums of products can be checked");
        }
        boolean before = told.hasSums;
        told.hasSums = is;
        return before;
    }

    // ---- the mesh

    public int broken(int row, int column, boolean is) throws IndexOutOfBoundsException {
        if (!isOnMesh(row, column)) {
            throw new IndexOutOfBoundsException("the mesh has no such cell");
        }
        cells.mark(row, column, is);
        return Integer.bitCount(cells.brokenSet);
    }

    public int test() throws IllegalStateException {
        if (work.runs()) {
            throw new IllegalStateException("a work runs");
        }
        return cells.findBroken();
    }

    public int start() throws IllegalStateException {
        if (work.runs()) {
            throw new IllegalStateException("a work runs");
        }
        findBest();
        if (chosen.isEmpty()) {
            throw new IllegalStateException("there is no layout");
        }
        work.begin(told, chosen, cells);
        results.clear();
        return work.beatsLeft;
    }

    public int beat(int beats) throws IllegalArgumentException, IllegalStateException {
        if (beats < 1 || beats > MOST_BEATS) {
            throw new IllegalArgumentException("beats are 1 to 300");
        }
        if (!work.runs()) {
            throw new IllegalStateException("no work runs");
        }
        for (int gone = 0; gone < beats && work.runs(); gone++) {
            work.pulse(cells, results);
        }
        return work.beatsLeft;
    }

    public int bend(int row, int column, int more) throws IndexOutOfBoundsException, IllegalArgumentException {
        if (!results.has(row, column)) {
            throw new IndexOutOfBoundsException("there is no such result");
        }
        if (more < -MOST_BEND || more > MOST_BEND) {
            throw new IllegalArgumentException("a result is bent by -999 to 999");
        }
        int bent = results.values.get(row, column) + more;
        results.values.set(row, column, bent);
        return bent;
    }

    public int check() throws IllegalStateException {
        if (results.rows == 0 || !results.haveSums) {
            throw new IllegalStateException("there are no results of a checked work");
        }
        return results.judge();
    }

    // ---- what is asked

    public int mesh(int what) throws IllegalArgumentException {
        if (what < 0 || what > LAST_MESH_QUESTION) {
            throw new IllegalArgumentException("what is 0 to 15");
        }
        return meshNumber(what);
    }

    public int ofCell(int row, int column, int what) throws IndexOutOfBoundsException, IllegalArgumentException {
        if (!isOnMesh(row, column)) {
            throw new IndexOutOfBoundsException("the mesh has no such cell");
        }
        if (what < 0 || what > LAST_CELL_QUESTION) {
            throw new IllegalArgumentException("what is 0 to 3");
        }
        return cellNumber(row, column, what);
    }

    public int result(int row, int column) throws IndexOutOfBoundsException {
        if (!results.has(row, column)) {
            throw new IndexOutOfBoundsException("there is no such result");
        }
        return results.values.get(row, column);
    }

    public int plain(int row, int column) throws IndexOutOfBoundsException {
        if (row < 0 || row >= told.rowsInAll() || column < 0 || column >= told.columnsInAll()) {
            throw new IndexOutOfBoundsException("there is no such row or column");
        }
        return told.plainOf(row, column);
    }

    public String row(int row) throws IndexOutOfBoundsException {
        if (row < 0 || row >= MESH_SIDE) {
            throw new IndexOutOfBoundsException("the mesh has no such row");
        }
        StringBuilder text = new StringBuilder();
        for (int column = 0; column < MESH_SIDE; column++) {
            text.append(signOf(row, column));
        }
        return text.toString();
    }

    // ---- what would be

    public int beats(int rows, int columns) throws IllegalArgumentException {
        if (rows < 1 || rows > ALL_LINES || columns < 1 || columns > ALL_LINES) {
            throw new IllegalArgumentException("a set of rows or columns is 1 to 31");
        }
        tried.measure(told);
        return beatsOn(rows, columns);
    }

    public int best(int what) throws IllegalArgumentException {
        if (what < 0 || what > LAST_BEST_QUESTION) {
            throw new IllegalArgumentException("what is 0 to 4");
        }
        findBest();
        return bestNumber(what);
    }

    public int saved() {
        findBest();
        return savedBeats();
    }

    public boolean isSound() {
        findBest();
        return isAllSound();
    }

    public long digest() {
        findBest();
        long d = DIGEST_START;
        for (int what = 0; what <= LAST_MESH_QUESTION; what++) {
            d = mix(d, meshNumber(what));
        }
        d = mixCells(d);
        d = mixResults(d);
        d = mixPlain(d);
        for (int what = 0; what <= LAST_BEST_QUESTION; what++) {
            d = mix(d, bestNumber(what));
        }
        d = mix(d, savedBeats());
        return mix(d, isAllSound() ? 1 : 0);
    }

    // ---- parts of the answers

    private static boolean isOperand(int value) {
        return value >= -MOST_OPERAND && value <= MOST_OPERAND;
    }

    private static boolean isOnMesh(int row, int column) {
        return row >= 0 && row < MESH_SIDE && column >= 0 && column < MESH_SIDE;
    }

    private int meshNumber(int what) {
        switch (what) {
            case 0: return told.r;
            case 1: return told.k;
            case 2: return told.c;
            case 3: return told.reckoning;
            case 4: return told.hasSums ? 1 : 0;
            case 5: return told.countSteps();
            case 6: return told.skippedSet();
            case 7: return Integer.bitCount(cells.brokenSet);
            case 8: return Integer.bitCount(cells.knownSet);
            case 9: return work.beatsEver;
            case 10: return work.startsEver;
            case 11: return work.runs() ? 1 : 0;
            case 12: return work.beatsLeft;
            case 13: return work.runs() ? work.tile : NONE;
            case 14: return results.rows;
            default: return results.columns;
        }
    }

    private int cellNumber(int row, int column, int what) {
        switch (what) {
            case 0: return cells.stateOf(row, column);
            case 1: return cells.uses.get(row, column);
            case 2: return work.isInTile(row, column) ? cells.sums.get(row, column) : 0;
            default: return work.lastStepOf(row, column);
        }
    }

    private char signOf(int row, int column) {
        int state = cells.stateOf(row, column);
        if (state == KNOWN) {
            return 'x';
        }
        if (state == BROKEN_UNKNOWN) {
            return '?';
        }
        return work.isInLayout(row, column) ? 'o' : '.';
    }

    /** Needs findBest() ahead, as do savedBeats() and isAllSound(). */
    private int bestNumber(int what) {
        if (chosen.isEmpty()) {
            return NONE;
        }
        switch (what) {
            case 0: return chosen.beatsInAll;
            case 1: return chosen.rows;
            case 2: return chosen.columns;
            case 3: return chosen.countTiles();
            default: return chosen.countFed();
        }
    }

    private int savedBeats() {
        // Each t that is skipped spares each tile one beat; an empty layout has no tiles.
        return chosen.countTiles() * (told.k - chosen.steps);
    }

    /** Puts the BEST LAYOUT into chosen, or leaves that empty if there is none. */
    private void findBest() {
        chosen.measure(told);
        chosen.lay(0, 0);
        tried.measure(told);
        for (int rows = 1; rows <= ALL_LINES; rows++) {
            int knownColumns = cells.knownColumns(rows);
            for (int columns = 1; columns <= ALL_LINES; columns++) {
                if ((columns & knownColumns) == 0) {
                    tried.lay(rows, columns);
                    keepIfBetter();
                }
            }
        }
    }

    private void keepIfBetter() {
        // Sets come by rising numbers, so of equal layouts the first one stays.
        if (chosen.isEmpty() || tried.isBetterThan(chosen)) {
            chosen.lay(tried.rows, tried.columns);
        }
    }

    /** BEATS of that LAYOUT, or NONE; needs tried to be measured, as findBest() does too. */
    private int beatsOn(int rows, int columns) {
        if (cells.crossKnown(rows, columns)) {
            return NONE;
        }
        tried.lay(rows, columns);
        return tried.beatsInAll;
    }

    private boolean isAllSound() {
        return isBestSound() && cells.areKnownBroken() && doUsesAddUp() && work.isUnfinished();
    }

    private boolean isBestSound() {
        if (!chosen.isEmpty() && cells.crossKnown(chosen.rows, chosen.columns)) {
            return false;
        }
        for (int rows = 1; rows <= ALL_LINES; rows++) {
            for (int columns = 1; columns <= ALL_LINES; columns++) {
                int beats = beatsOn(rows, columns);
                if (beats != NONE && (chosen.isEmpty() || beats < chosen.beatsInAll)) {
                    return false;
                }
            }
        }
        return true;
    }

    private boolean doUsesAddUp() {
        return cells.sumOfUses() == work.takenByTilesDone + work.takenInTile();
    }

    private static long mix(long d, int v) {
        return d * DIGEST_FACTOR + v;
    }

    private long mixCells(long start) {
        long d = start;
        for (int row = 0; row < MESH_SIDE; row++) {
            for (int column = 0; column < MESH_SIDE; column++) {
                for (int what = 0; what <= LAST_CELL_QUESTION; what++) {
                    d = mix(d, cellNumber(row, column, what));
                }
            }
        }
        return d;
    }

    private long mixResults(long start) {
        long d = start;
        for (int row = 0; row < results.rows; row++) {
            for (int column = 0; column < results.columns; column++) {
                d = mix(d, results.values.get(row, column));
            }
        }
        return d;
    }

    private long mixPlain(long start) {
        long d = start;
        for (int row = 0; row < told.rowsInAll(); row++) {
            for (int column = 0; column < told.columnsInAll(); column++) {
                d = mix(d, told.plainOf(row, column));
            }
        }
        return d;
    }

    /** Numbers in rows and columns; no call can lead an index out of the array. */
    private static final class Table {
        // 8 rows or columns and the one more of a checked work: the largest table that there is.
        private static final int SIDE = 9;

        private final int[] numbers = new int[SIDE * SIDE];

        int get(int row, int column) {
            if (row < 0 || row >= SIDE || column < 0 || column >= SIDE) {
                return 0;
            }
            return numbers[row * SIDE + column];
        }

        void set(int row, int column, int number) {
            if (row < 0 || row >= SIDE || column < 0 || column >= SIDE) {
                return;
            }
            numbers[row * SIDE + column] = number;
        }

        void fill(int number) {
            for (int i = 0; i < numbers.length; i++) {
                numbers[i] = number;
            }
        }

        void copyFrom(Table other) {
            for (int i = 0; i < numbers.length && i < other.numbers.length; i++) {
                numbers[i] = other.numbers[i];
            }
        }
    }

    /** What is to be reckoned: SHAPE, operands, KIND and CHECKED. */
    private static final class Job {
        // By least and greatest a sum begins with what every operand pair beats.
        private static final int ABOVE_ALL = 999;
        private static final int BELOW_ALL = -999;

        private final Table a = new Table();
        private final Table b = new Table();
        private int r = 2;
        private int k = 2;
        private int c = 2;
        private int reckoning = PRODUCTS;
        private boolean hasSums = false;

        void reshape(int newR, int newK, int newC) {
            r = newR;
            k = newK;
            c = newC;
            a.fill(0);
            b.fill(0);
        }

        void copyFrom(Job other) {
            r = other.r;
            k = other.k;
            c = other.c;
            reckoning = other.reckoning;
            hasSums = other.hasSums;
            a.copyFrom(other.a);
            b.copyFrom(other.b);
        }

        int rowsInAll() {
            return hasSums ? r + 1 : r;
        }

        int columnsInAll() {
            return hasSums ? c + 1 : c;
        }

        int countOperands() {
            int count = 0;
            for (int t = 0; t < k; t++) {
                for (int i = 0; i < r; i++) {
                    count += a.get(i, t) == 0 ? 0 : 1;
                }
                for (int j = 0; j < c; j++) {
                    count += b.get(t, j) == 0 ? 0 : 1;
                }
            }
            return count;
        }

        /** A of that row and t; the row r is the one of sums. */
        int leftOperand(int i, int t) {
            if (i < r) {
                return a.get(i, t);
            }
            int sum = 0;
            for (int other = 0; other < r; other++) {
                sum += a.get(other, t);
            }
            return sum;
        }

        /** B of that t and column; the column c is the one of sums. */
        int topOperand(int t, int j) {
            if (j < c) {
                return b.get(t, j);
            }
            int sum = 0;
            for (int other = 0; other < c; other++) {
                sum += b.get(t, other);
            }
            return sum;
        }

        int firstSum() {
            switch (reckoning) {
                case LEAST: return ABOVE_ALL;
                case GREATEST: return BELOW_ALL;
                default: return 0;
            }
        }

        /** The sum, once A(i, t) and B(t, j) are brought into it. */
        int bringIn(int sum, int i, int t, int j) {
            int fromLeft = leftOperand(i, t);
            int fromTop = topOperand(t, j);
            switch (reckoning) {
                case LEAST: return Math.min(sum, fromLeft + fromTop);
                case GREATEST: return Math.max(sum, Math.min(fromLeft, fromTop));
                default: return sum + fromLeft * fromTop;
            }
        }

        int plainOf(int i, int j) {
            int sum = firstSum();
            for (int t = 0; t < k; t++) {
                sum = bringIn(sum, i, t, j);
            }
            return sum;
        }

        int skippedSet() {
            if (reckoning != PRODUCTS) {
                return 0;
            }
            int set = 0;
            for (int t = 0; t < k; t++) {
                if (isLeftNought(t) || isTopNought(t)) {
                    set |= 1 << t;
                }
            }
            int all = (1 << k) - 1;
            return set == all ? all & ~(1 << (k - 1)) : set;
        }

        int countSteps() {
            return k - Integer.bitCount(skippedSet());
        }

        private boolean isLeftNought(int t) {
            for (int i = 0; i < r; i++) {
                if (a.get(i, t) != 0) {
                    return false;
                }
            }
            return true;
        }

        private boolean isTopNought(int t) {
            for (int j = 0; j < c; j++) {
                if (b.get(t, j) != 0) {
                    return false;
                }
            }
            return true;
        }
    }

    /** The cells: which are BROKEN and KNOWN, their USE and their sums. */
    private static final class Cells {
        private final Table uses = new Table();
        private final Table sums = new Table();
        private int brokenSet = 0;
        private int knownSet = 0;

        private static int bitOf(int row, int column) {
            return 1 << (row * MESH_SIDE + column);
        }

        void mark(int row, int column, boolean isBroken) {
            int bit = bitOf(row, column);
            if (isBroken) {
                brokenSet |= bit;
            } else {
                brokenSet &= ~bit;
                knownSet &= ~bit;
            }
        }

        boolean isBrokenAt(int row, int column) {
            return (brokenSet & bitOf(row, column)) != 0;
        }

        int stateOf(int row, int column) {
            if (!isBrokenAt(row, column)) {
                return WHOLE;
            }
            return (knownSet & bitOf(row, column)) != 0 ? KNOWN : BROKEN_UNKNOWN;
        }

        int findBroken() {
            int found = Integer.bitCount(brokenSet & ~knownSet);
            knownSet = brokenSet;
            return found;
        }

        boolean areKnownBroken() {
            return (knownSet & ~brokenSet) == 0;
        }

        /** The set of columns in which one of those rows has a KNOWN cell. */
        int knownColumns(int rows) {
            int set = 0;
            for (int row = 0; row < MESH_SIDE; row++) {
                if ((rows >> row & 1) != 0) {
                    set |= knownSet >> (row * MESH_SIDE) & ALL_LINES;
                }
            }
            return set;
        }

        boolean crossKnown(int rows, int columns) {
            return (columns & knownColumns(rows)) != 0;
        }

        void takeIn(int row, int column, int sum) {
            sums.set(row, column, isBrokenAt(row, column) ? sum + 1 : sum);
            uses.set(row, column, uses.get(row, column) + 1);
        }

        int sumOfUses() {
            int sum = 0;
            for (int row = 0; row < MESH_SIDE; row++) {
                for (int column = 0; column < MESH_SIDE; column++) {
                    sum += uses.get(row, column);
                }
            }
            return sum;
        }
    }

    /** A LAYOUT, and how a job of some measures is cut to TILES on it; empty sets stand for none. */
    private static final class Layout {
        private int jobRows = 0;
        private int jobColumns = 0;
        private int steps = 0;
        private int rows = 0;
        private int columns = 0;
        private int height = 0;
        private int width = 0;
        private int tilesDown = 0;
        private int tilesAcross = 0;
        private int beatsInAll = 0;

        void measure(Job job) {
            jobRows = job.rowsInAll();
            jobColumns = job.columnsInAll();
            steps = job.countSteps();
        }

        void lay(int newRows, int newColumns) {
            rows = newRows;
            columns = newColumns;
            height = Integer.bitCount(rows);
            width = Integer.bitCount(columns);
            tilesDown = countPieces(jobRows, height);
            tilesAcross = countPieces(jobColumns, width);
            beatsInAll = countEdges() + countTiles() * (steps - 1);
        }

        void copyFrom(Layout other) {
            jobRows = other.jobRows;
            jobColumns = other.jobColumns;
            steps = other.steps;
            lay(other.rows, other.columns);
        }

        boolean isEmpty() {
            return rows == 0 || columns == 0;
        }

        boolean isBetterThan(Layout other) {
            if (beatsInAll != other.beatsInAll) {
                return beatsInAll < other.beatsInAll;
            }
            return height * width < other.height * other.width;
        }

        int countTiles() {
            return tilesDown * tilesAcross;
        }

        /** Rows and columns of all tiles together: each row of the job is in every tile across, and so on. */
        private int countEdges() {
            return jobRows * tilesAcross + jobColumns * tilesDown;
        }

        int countFed() {
            return countEdges() * steps;
        }

        private static int countPieces(int length, int size) {
            return size < 1 ? 0 : (length + size - 1) / size;
        }
    }

    /** RESULTS; no rows and columns while there are none. */
    private static final class Results {
        private static final int ALL_RIGHT = 0;
        private static final int MENDED = 1;
        private static final int BEYOND_MENDING = 2;

        private final Table values = new Table();
        private int rows = 0;
        private int columns = 0;
        private boolean haveSums = false;

        void clear() {
            rows = 0;
            columns = 0;
            haveSums = false;
        }

        void open(Job job) {
            rows = job.rowsInAll();
            columns = job.columnsInAll();
            haveSums = job.hasSums;
        }

        boolean has(int row, int column) {
            return row >= 0 && row < rows && column >= 0 && column < columns;
        }

        int judge() {
            int wrongRows = 0;
            int wrongRow = NONE;
            for (int row = 0; row < rows; row++) {
                if (rowError(row) != 0) {
                    wrongRows++;
                    wrongRow = row;
                }
            }
            int wrongColumns = 0;
            int wrongColumn = NONE;
            for (int column = 0; column < columns; column++) {
                if (columnError(column) != 0) {
                    wrongColumns++;
                    wrongColumn = column;
                }
            }
            if (wrongRows == 0 && wrongColumns == 0) {
                return ALL_RIGHT;
            }
            if (wrongRows != 1 || wrongColumns != 1) {
                return BEYOND_MENDING;
            }
            return mend(wrongRow, wrongColumn);
        }

        private int mend(int row, int column) {
            int value = values.get(row, column);
            // The last one of a line stands for the sum, so it is mended the other way round.
            int rightInRow = column == columns - 1 ? value + rowError(row) : value - rowError(row);
            int rightInColumn = row == rows - 1 ? value + columnError(column) : value - columnError(column);
            if (rightInRow != rightInColumn) {
                return BEYOND_MENDING;
            }
            values.set(row, column, rightInRow);
            return MENDED;
        }

        /** By how much all but the last of the row are together more than the last. */
        private int rowError(int row) {
            int error = -values.get(row, columns - 1);
            for (int column = 0; column < columns - 1; column++) {
                error += values.get(row, column);
            }
            return error;
        }

        private int columnError(int column) {
            int error = -values.get(rows - 1, column);
            for (int row = 0; row < rows - 1; row++) {
                error += values.get(row, column);
            }
            return error;
        }
    }

    /** The work that was STARTED last, and how far it is. */
    private static final class Work {
        private final Job job = new Job();
        private final Layout layout = new Layout();
        private int skipped = 0;
        private int tile = 0;
        private int firstRow = 0;
        private int firstColumn = 0;
        private int beatOfTile = 0;
        private int beatsLeft = 0;
        private int beatsEver = 0;
        private int startsEver = 0;
        private int takenByTilesDone = 0;

        boolean runs() {
            return beatsLeft > 0;
        }

        void begin(Job told, Layout best, Cells cells) {
            job.copyFrom(told);
            layout.copyFrom(best);
            skipped = job.skippedSet();
            tile = 0;
            firstRow = 0;
            firstColumn = 0;
            beatsLeft = layout.beatsInAll;
            startsEver++;
            openTile(cells);
        }

        private void openTile(Cells cells) {
            beatOfTile = 0;
            cells.sums.fill(job.firstSum());
        }

        private int tileRows() {
            return Math.min(layout.height, layout.jobRows - firstRow);
        }

        private int tileColumns() {
            return Math.min(layout.width, layout.jobColumns - firstColumn);
        }

        private int beatsOfTile() {
            return tileRows() + tileColumns() + layout.steps - 1;
        }

        /** One BEAT goes by. */
        void pulse(Cells cells, Results results) {
            for (int i = 0; i < tileRows(); i++) {
                for (int j = 0; j < tileColumns(); j++) {
                    feed(cells, i, j);
                }
            }
            beatOfTile++;
            beatsLeft--;
            beatsEver++;
            if (beatOfTile >= beatsOfTile()) {
                closeTile(cells, results);
            }
        }

        private void feed(Cells cells, int i, int j) {
            int s = beatOfTile - i - j;
            if (s < 0 || s >= layout.steps) {
                return;
            }
            int t = memberOf(~skipped, s);
            int row = memberOf(layout.rows, i);
            int column = memberOf(layout.columns, j);
            int sum = cells.sums.get(row, column);
            cells.takeIn(row, column, job.bringIn(sum, firstRow + i, t, firstColumn + j));
        }

        private void closeTile(Cells cells, Results results) {
            drain(cells, results);
            takenByTilesDone += tileRows() * tileColumns() * layout.steps;
            tile++;
            firstColumn += layout.width;
            if (firstColumn >= layout.jobColumns) {
                firstColumn = 0;
                firstRow += layout.height;
            }
            if (runs()) {
                openTile(cells);
            } else {
                results.open(job);
            }
        }

        private void drain(Cells cells, Results results) {
            for (int i = 0; i < tileRows(); i++) {
                for (int j = 0; j < tileColumns(); j++) {
                    int sum = cells.sums.get(memberOf(layout.rows, i), memberOf(layout.columns, j));
                    results.values.set(firstRow + i, firstColumn + j, sum);
                }
            }
        }

        boolean isInLayout(int row, int column) {
            return runs() && (layout.rows >> row & 1) != 0 && (layout.columns >> column & 1) != 0;
        }

        boolean isInTile(int row, int column) {
            return isInLayout(row, column) && placeOf(layout.rows, row) < tileRows()
                    && placeOf(layout.columns, column) < tileColumns();
        }

        int lastStepOf(int row, int column) {
            if (!isInTile(row, column)) {
                return NONE;
            }
            int s = beatOfTile - 1 - placeOf(layout.rows, row) - placeOf(layout.columns, column);
            return s >= 0 && s < layout.steps ? s : NONE;
        }

        int takenInTile() {
            if (!runs()) {
                return 0;
            }
            int taken = 0;
            for (int i = 0; i < tileRows(); i++) {
                for (int j = 0; j < tileColumns(); j++) {
                    taken += Math.max(0, Math.min(layout.steps, beatOfTile - i - j));
                }
            }
            return taken;
        }

        /** Whether less than all BEATS of a work that runs went by. */
        boolean isUnfinished() {
            return !runs() || beatOfTile < beatsOfTile() && tile < layout.countTiles();
        }

        /** The member of a set that has that many smaller ones, or NONE. */
        private static int memberOf(int set, int place) {
            int smaller = 0;
            for (int member = 0; member < MOST_LINES; member++) {
                if ((set >> member & 1) != 0) {
                    if (smaller == place) {
                        return member;
                    }
                    smaller++;
                }
            }
            return NONE;
        }

        /** How many members of a set are smaller than that one. */
        private static int placeOf(int set, int member) {
            return Integer.bitCount(set & ((1 << member) - 1));
        }
    }
}
