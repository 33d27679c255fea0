import java.math.BigInteger;
import java.util.ArrayList;
import java.util.List;

/** The edges of what holds for all calls, and of what is asked of the whole: promises 13, 14, 21 and 22. */
final class WholeBoundaries {
    private static final String ALL = "Description";
    private static final int STAGES = 5;
    private static final int REFUSED_CALLS = 31;
    private static final BigInteger WRAP = BigInteger.ONE.shiftLeft(64);

    private WholeBoundaries() {
    }

    static void run() {
        Due.each(
                WholeBoundaries::lastCallOfAll,
                WholeBoundaries::noneIsMinusOne,
                WholeBoundaries::setsAsNumbers,
                WholeBoundaries::refusedCallsChangeNothing,
                WholeBoundaries::firstNamedIsThrown,
                WholeBoundaries::meshOfWhatIsTold,
                WholeBoundaries::meshOfCells,
                WholeBoundaries::meshEver,
                WholeBoundaries::meshWithoutAWork,
                WholeBoundaries::meshOfTiles,
                WholeBoundaries::meshOfResults,
                WholeBoundaries::meshReturns,
                WholeBoundaries::meshBounds,
                WholeBoundaries::stateOfCell,
                WholeBoundaries::useOfCell,
                WholeBoundaries::sumOfCell,
                WholeBoundaries::stepOfCell,
                WholeBoundaries::ofCellReturns,
                WholeBoundaries::ofCellPlaces,
                WholeBoundaries::ofCellQuestions,
                WholeBoundaries::soundInEachState,
                WholeBoundaries::digestOfEachState,
                WholeBoundaries::digestWrapsAround,
                WholeBoundaries::digestReturns);
    }

    // ---- Description

    private static void lastCallOfAll() {
        Due.by("What it is", "An object is used for at most 512 calls after it has been made");
        Pulsemesh x = Meshes.shaped(1, 1, 1);
        x.start();
        x.beat(2);
        for (int call = 4; call <= 511; call++) {
            x.bend(0, 0, 999);
        }
        Due.same("the 512th call", x.bend(0, 0, 999), 509 * 999);
        Pulsemesh y = Meshes.twoByTwo();
        for (int call = 9; call <= 510; call += 2) {
            y.start();
            y.beat(300);
        }
        Due.same("the 511th call", y.mesh(9), 251 * 5);
        Due.same("the 512th call of another one", y.ofCell(0, 0, 1), 251 * 2);
    }

    private static void noneIsMinusOne() {
        Due.by(ALL, "NONE is -1.");
        Pulsemesh x = new Pulsemesh();
        Due.same("tile", x.mesh(13), -1);
        Due.same("step", x.ofCell(0, 0, 3), -1);
        Meshes.breakAll(x);
        x.test();
        Due.same("beats", x.beats(1, 1), -1);
        Due.same("best", x.best(0), -1);
    }

    private static void setsAsNumbers() {
        Due.by(ALL, "A set is the sum of 2^k for the numbers k in it.");
        for (int k = 0; k <= 4; k++) {
            Pulsemesh x = Meshes.shaped(1, 5, 1);
            Meshes.tellAll(x, 1, 1);
            x.left(0, k, 0);
            Due.same("the set of t " + k, x.mesh(6), 1 << k);
            Meshes.knowAllBut(x, new int[] {k, 4 - k});
            Due.same("the set of row " + k, x.best(1), 1 << k);
            Due.same("the set of column " + (4 - k), x.best(2), 1 << 4 - k);
            Due.same("beats on both", x.beats(1 << k, 1 << 4 - k), 5);
        }
    }

    /** Two objects of the same calls, but for one that throws: they answer alike from then on. */
    private static void refusedCallsChangeNothing() {
        Due.by(ALL, "A method that throws an exception changes nothing.");
        for (int stage = 0; stage < STAGES; stage++) {
            for (int call = 0; call < REFUSED_CALLS; call++) {
                Pulsemesh x = atStage(stage);
                Pulsemesh y = atStage(stage);
                String thrown = refusedCall(x, call);
                String when = "stage " + stage + ", refused call " + call;
                Due.same(when + " throws", thrown.startsWith("java.lang."), true);
                Due.same(when + ", digest", x.digest(), y.digest());
                Due.same(when + ", what follows", whatFollows(x), whatFollows(y));
            }
        }
    }

    /** 0 told, 1 running, 2 ended, 3 ended and no layout for the next one, 4 ended and another kind is told. */
    private static Pulsemesh atStage(int stage) {
        Pulsemesh x = Meshes.twoByTwo();
        x.checked(true);
        x.broken(1, 1, true);
        if (stage > 0) {
            x.start();
            x.beat(stage == 1 ? 3 : 300);
        }
        if (stage == 4) {
            x.kind(1);
        }
        if (stage == 3) {
            Meshes.breakAll(x);
            x.test();
        }
        return x;
    }

    private static String refusedCall(Pulsemesh x, int call) {
        boolean runs = x.mesh(11) == 1;
        switch (call) {
            case 0: return Due.thrownBy(() -> x.shape(0, 1, 1));
            case 1: return Due.thrownBy(() -> x.shape(8, 7, 8));
            case 2: return Due.thrownBy(() -> x.shape(8, 6, 9));
            case 3: return Due.thrownBy(() -> x.left(2, 0, 9));
            case 4: return Due.thrownBy(() -> x.left(0, 2, 9));
            case 5: return Due.thrownBy(() -> x.left(1, 1, 10));
            case 6: return Due.thrownBy(() -> x.top(2, 0, 9));
            case 7: return Due.thrownBy(() -> x.top(0, 2, 9));
            case 8: return Due.thrownBy(() -> x.top(1, 1, -10));
            case 9: return Due.thrownBy(() -> x.kind(3));
            case 10: return Due.thrownBy(() -> x.kind(-1));
            case 11: return Due.thrownBy(() -> x.broken(5, 0, true));
            case 12: return Due.thrownBy(() -> x.broken(0, 5, true));
            case 13: return Due.thrownBy(() -> x.broken(1, -1, false));
            case 14: return Due.thrownBy(() -> x.beat(0));
            case 15: return Due.thrownBy(() -> x.beat(301));
            case 16: return Due.thrownBy(() -> x.bend(3, 0, 1));
            case 17: return Due.thrownBy(() -> x.bend(0, 3, 1));
            case 18: return Due.thrownBy(() -> x.bend(0, 0, 1000));
            case 19: return Due.thrownBy(() -> x.mesh(16));
            case 20: return Due.thrownBy(() -> x.ofCell(5, 0, 0));
            case 21: return Due.thrownBy(() -> x.result(3, 0));
            case 22: return Due.thrownBy(() -> x.plain(0, 3));
            case 23: return Due.thrownBy(() -> x.row(5));
            case 24: return Due.thrownBy(() -> x.beats(32, 1));
            case 25: return Due.thrownBy(() -> x.best(5));
            // What throws in some states alone; in the others something that always does.
            case 26: return Due.thrownBy(() -> runs ? x.test() : x.beat(1));
            case 27: return Due.thrownBy(() -> runs ? x.start() : x.ofCell(0, 0, 4));
            case 28: return Due.thrownBy(() -> x.mesh(14) == 0 ? x.check() : x.mesh(-1));
            case 29: return Due.thrownBy(() -> x.best(0) == -1 ? x.start() : x.best(-1));
            default: return Due.thrownBy(() -> x.mesh(3) != 0 ? x.checked(true) : x.kind(4));
        }
    }

    private static List<Object> whatFollows(Pulsemesh x) {
        List<Object> answers = new ArrayList<>();
        answers.add(Meshes.answerOf(() -> x.beat(1)));
        answers.add(x.digest());
        answers.add(Meshes.answerOf(() -> x.beat(300)));
        answers.add(Meshes.answerOf(() -> x.check()));
        answers.add(x.digest());
        answers.add(Meshes.answerOf(() -> x.broken(0, 0, false)));
        answers.add(Meshes.answerOf(() -> x.test()));
        answers.add(Meshes.answerOf(() -> x.start()));
        answers.add(Meshes.answerOf(() -> x.beat(300)));
        answers.add(Meshes.answerOf(() -> x.bend(0, 0, 3)));
        answers.add(Meshes.answerOf(() -> x.check()));
        answers.add(x.digest());
        answers.add(x.shape(8, 6, 8));
        answers.add(x.digest());
        return answers;
    }

    private static void firstNamedIsThrown() {
        Due.by(ALL, "If several exceptions apply, the one that is named first is thrown.");
        for (int stage = 0; stage < STAGES; stage++) {
            Pulsemesh x = atStage(stage);
            Due.refused(x, "left, row and value", Meshes.NO_PLACE, () -> x.left(2, 0, 10));
            Due.refused(x, "left, column and value", Meshes.NO_PLACE, () -> x.left(0, -1, -10));
            Due.refused(x, "top, row and value", Meshes.NO_PLACE, () -> x.top(-1, 0, 10));
            Due.refused(x, "top, column and value", Meshes.NO_PLACE, () -> x.top(0, 2, -10));
            Due.refused(x, "bend, row and value", Meshes.NO_PLACE, () -> x.bend(3, 0, 1000));
            Due.refused(x, "bend, column and value", Meshes.NO_PLACE, () -> x.bend(0, -1, -1000));
            Due.refused(x, "ofCell, row and what", Meshes.NO_PLACE, () -> x.ofCell(5, 0, 4));
            Due.refused(x, "ofCell, column and what", Meshes.NO_PLACE, () -> x.ofCell(0, -1, -1));
            Due.refused(x, "beat, too few", Meshes.NO_VALUE, () -> x.beat(0));
            Due.refused(x, "beat, too many", Meshes.NO_VALUE, () -> x.beat(301));
        }
        Pulsemesh x = atStage(1);
        Due.refused(x, "bend without results, and value", Meshes.NO_PLACE, () -> x.bend(0, 0, 1000));
    }

    // ---- Promise 13

    private static void meshOfWhatIsTold() {
        Due.by("Promise 13", "(0 to 6 as they are told) 0 r, 1 k, 2 c, 3 KIND, 4 1 if CHECKED, otherwise 0, 5"
                + " STEPS, 6 the"
                + " set of those t that are SKIPPED");
        Pulsemesh x = Meshes.twoByTwo();
        x.checked(true);
        x.start();
        Meshes.dueMesh("of the work that runs", x, 2, 2, 2, 0, 1, 2, 0);
        x.shape(1, 6, 8);
        Meshes.dueMesh("of what is told meanwhile", x, 1, 6, 8, 0, 1, 1, 31);
        x.kind(2);
        Meshes.dueMesh("of another kind", x, 1, 6, 8, 2, 0, 6, 0);
        x.shape(8, 1, 1);
        x.kind(0);
        Meshes.dueMesh("of one nought", x, 8, 1, 1, 0, 0, 1, 0);
        Meshes.runOut(x);
        Meshes.dueMesh("once it ended", x, 8, 1, 1, 0, 0, 1, 0);
    }

    private static void meshOfCells() {
        Due.by("Promise 13", "7 how many cells are BROKEN, 8 KNOWN");
        Pulsemesh x = new Pulsemesh();
        for (int cell = 0; cell < 25; cell++) {
            Due.same("broken", x.mesh(7), cell);
            Due.same("known", x.mesh(8), cell / 5 * 5);
            x.broken(cell / 5, cell % 5, true);
            if (cell % 5 == 4) {
                x.test();
            }
        }
        Due.same("all are broken", x.mesh(7), 25);
        Due.same("all are known", x.mesh(8), 25);
        x.broken(4, 4, false);
        Due.same("one is whole", x.mesh(7), 24);
        Due.same("and not known", x.mesh(8), 24);
    }

    private static void meshEver() {
        Due.by("Promise 13", "9 BEATS ever, 10 works that were STARTED ever");
        Pulsemesh x = Meshes.twoByTwo();
        for (int works = 0; works < 4; works++) {
            Due.same("beats", x.mesh(9), 5 * works);
            Due.same("works", x.mesh(10), works);
            x.start();
            Due.same("works with the one that runs", x.mesh(10), works + 1);
            x.beat(2);
            Due.same("beats with those of the one that runs", x.mesh(9), 5 * works + 2);
            Due.refused(x, "start", Meshes.NOT_NOW, () -> x.start());
            x.beat(300);
        }
        x.shape(2, 2, 2);
        Due.same("shape leaves the beats", x.mesh(9), 20);
        Due.same("shape leaves the works", x.mesh(10), 4);
    }

    private static void meshWithoutAWork() {
        Due.by("Promise 13", "11 1 if one runs, otherwise 0, 12 how many BEATS of it are left (0)");
        Pulsemesh x = Meshes.twoByTwo();
        Due.same("none runs", x.mesh(11), 0);
        Due.same("none is left", x.mesh(12), 0);
        for (int left = x.start(); left > 0; left = x.beat(1)) {
            Due.same("one runs", x.mesh(11), 1);
            Due.same("left", x.mesh(12), left);
        }
        Due.same("it ended", x.mesh(11), 0);
        Due.same("none is left of it", x.mesh(12), 0);
    }

    private static void meshOfTiles() {
        Due.by("Promise 13", "13 the number (from 0 on) of its TILE that is being done, that of the next BEAT (NONE)");
        Pulsemesh x = Meshes.shaped(6, 1, 1);
        Due.same("without a work", x.mesh(13), -1);
        Due.same("two tiles of 4 beats", x.start(), 8);
        for (int gone = 0; gone < 8; gone++) {
            Due.same("after beats " + gone, x.mesh(13), gone / 4);
            x.beat(1);
        }
        Due.same("once it ended", x.mesh(13), -1);
        Pulsemesh most = Meshes.shaped(8, 1, 8);
        most.checked(true);
        Meshes.knowAllBut(most, new int[] {0, 0});
        most.start();
        most.beat(161);
        Due.same("the last of 81", most.mesh(13), 80);
    }

    private static void meshOfResults() {
        Due.by("Promise 13", "14 rows of RESULTS (0 without), 15 columns of them");
        Pulsemesh x = Meshes.shaped(1, 1, 8);
        Due.same("rows at first", x.mesh(14), 0);
        Due.same("columns at first", x.mesh(15), 0);
        Meshes.runThrough(x);
        Due.same("rows", x.mesh(14), 1);
        Due.same("columns", x.mesh(15), 8);
        x.shape(8, 1, 1);
        x.checked(true);
        Due.same("rows are not those of what is told", x.mesh(14), 1);
        x.start();
        Due.same("rows while one runs", x.mesh(14), 0);
        Due.same("columns while one runs", x.mesh(15), 0);
        Meshes.runOut(x);
        Due.same("rows with the sums", x.mesh(14), 9);
        Due.same("columns with the sums", x.mesh(15), 2);
    }

    private static void meshReturns() {
        Due.by("Promise 13", "Returns that.");
        Pulsemesh x = Meshes.twoByTwoDone(true);
        x.broken(0, 3, true);
        x.test();
        x.broken(0, 4, true);
        Meshes.dueMesh("of all", x, 2, 2, 2, 0, 1, 2, 0, 2, 1, 7, 1, 0, 0, -1, 3, 3);
    }

    private static void meshBounds() {
        Due.by("Promise 13", "Throws `IllegalArgumentException` if what is not 0 to 15");
        Pulsemesh x = new Pulsemesh();
        Due.same("mesh(0)", Meshes.answerOf(() -> x.mesh(0)), 2);
        Due.same("mesh(15)", Meshes.answerOf(() -> x.mesh(15)), 0);
        for (int bad : new int[] {-1, 16, Meshes.LEAST, Meshes.MOST}) {
            Due.refused(x, "mesh(" + bad + ")", Meshes.NO_VALUE, () -> x.mesh(bad));
        }
    }

    // ---- Promise 14

    private static void stateOfCell() {
        Due.by("Promise 14", "0 0 if it is whole, 1 BROKEN and not KNOWN, 2 KNOWN");
        Pulsemesh x = new Pulsemesh();
        for (int place = 0; place <= 4; place += 4) {
            Due.same("whole", x.ofCell(place, 4 - place, 0), 0);
            x.broken(place, 4 - place, true);
            Due.same("broken", x.ofCell(place, 4 - place, 0), 1);
            x.test();
            Due.same("known", x.ofCell(place, 4 - place, 0), 2);
            x.broken(place, 4 - place, false);
            Due.same("whole again", x.ofCell(place, 4 - place, 0), 0);
        }
    }

    private static void useOfCell() {
        Due.by("Promise 14", "1 its USE");
        Pulsemesh x = Meshes.shaped(5, 1, 5);
        x.start();
        for (int b = 0; b < 10; b++) {
            x.beat(1);
            for (int place = 0; place <= 4; place++) {
                Due.same("use of (" + place + ", 4)", x.ofCell(place, 4, 1), b >= place + 4 ? 1 : 0);
                Due.same("use of (4, " + place + ")", x.ofCell(4, place, 1), b >= place + 4 ? 1 : 0);
            }
        }
    }

    private static void sumOfCell() {
        Due.by("Promise 14", "2 its sum (0, 999 or -999 ahead of its first STEP, too), if it is a cell of the"
                + " TILE that is"
                + " being done (0 otherwise)");
        int[] first = {0, 999, -999};
        for (int kind = 0; kind <= 2; kind++) {
            Pulsemesh x = Meshes.shaped(7, 1, 1);
            x.kind(kind);
            Meshes.tellAll(x, 4, 5);
            int sum = kind == 0 ? 20 : kind == 1 ? 9 : 4;
            Due.same("no tile", x.ofCell(0, 0, 2), 0);
            Due.same("tiles of 4 and 3 rows", x.start(), 9);
            Due.same("the last one of the tile ahead of its step", x.ofCell(3, 0, 2), first[kind]);
            Due.same("a row that is not in the layout", x.ofCell(4, 0, 2), 0);
            Due.same("a column that is not in the layout", x.ofCell(0, 1, 2), 0);
            x.beat(3);
            Due.same("one beat ahead", x.ofCell(3, 0, 2), first[kind]);
            x.beat(1);
            Due.same("by its step", x.ofCell(3, 0, 2), sum);
            Due.same("of one whose steps are gone", x.ofCell(0, 0, 2), sum);
            x.beat(1);
            Due.same("a row that is not in the second tile", x.ofCell(3, 0, 2), 0);
            Due.same("the last one of the second tile", x.ofCell(2, 0, 2), first[kind]);
            x.beat(4);
            Due.same("no tile then", x.ofCell(0, 0, 2), 0);
            x.shape(1, 1, 7);
            Due.same("tiles of 4 and 3 columns", x.start(), 9);
            Due.same("the last column of the first tile", x.ofCell(0, 3, 2), first[kind]);
            x.beat(5);
            Due.same("a column that is not in the second tile", x.ofCell(0, 3, 2), 0);
            Due.same("the last column of the second tile", x.ofCell(0, 2, 2), first[kind]);
        }
    }

    private static void stepOfCell() {
        Due.by("Promise 14", "3 the number s of the STEP that it took in the BEAT of that TILE that went by"
                + " last (NONE)");
        Pulsemesh x = Meshes.shaped(7, 2, 1);
        x.kind(1);
        Due.same("no tile", x.ofCell(0, 0, 3), -1);
        Due.same("tiles of 6 and 5 beats", x.start(), 11);
        dueSteps("ahead of the first beat", x, -1, -1, -1, -1, -1);
        x.beat(1);
        dueSteps("by the first beat", x, 0, -1, -1, -1, -1);
        x.beat(1);
        dueSteps("by the second", x, 1, 0, -1, -1, -1);
        x.beat(1);
        dueSteps("by the third", x, -1, 1, 0, -1, -1);
        x.beat(2);
        dueSteps("one beat ahead of the last", x, -1, -1, -1, 1, -1);
        x.beat(1);
        dueSteps("none of the second tile went by", x, -1, -1, -1, -1, -1);
        x.beat(4);
        dueSteps("ahead of the end", x, -1, -1, 1, -1, -1);
        x.beat(1);
        dueSteps("ended", x, -1, -1, -1, -1, -1);
    }

    private static void dueSteps(String when, Pulsemesh x, int... wants) {
        for (int row = 0; row <= 4; row++) {
            Due.same(when + ", row " + row, x.ofCell(row, 0, 3), wants[row]);
            Due.same(when + ", beside row " + row, x.ofCell(row, 1, 3), -1);
        }
    }

    private static void ofCellReturns() {
        Due.by("Promise 14", "Returns that.");
        Pulsemesh x = Meshes.twoByTwo();
        x.broken(0, 1, true);
        x.start();
        x.beat(2);
        int[] wants = {1, 1, 7, 0};
        for (int what = 0; what <= 3; what++) {
            Due.same("ofCell(0, 1, " + what + ")", x.ofCell(0, 1, what), wants[what]);
        }
    }

    private static void ofCellPlaces() {
        Due.by("Promise 14", "Throws `IndexOutOfBoundsException` if row or column is not 0 to 4");
        Pulsemesh x = new Pulsemesh();
        for (int what = 0; what <= 3; what++) {
            int asked = what;
            Due.same("the last cell", Meshes.answerOf(() -> x.ofCell(4, 4, asked)), what == 3 ? -1 : 0);
            for (int bad : new int[] {-1, 5, Meshes.LEAST, Meshes.MOST}) {
                Due.refused(x, "row " + bad, Meshes.NO_PLACE, () -> x.ofCell(bad, 4, asked));
                Due.refused(x, "column " + bad, Meshes.NO_PLACE, () -> x.ofCell(0, bad, asked));
            }
        }
    }

    private static void ofCellQuestions() {
        Due.by("Promise 14", "Throws `IllegalArgumentException` if what is not 0 to 3");
        Pulsemesh x = new Pulsemesh();
        Due.same("what of 0", Meshes.answerOf(() -> x.ofCell(4, 0, 0)), 0);
        Due.same("what of 3", Meshes.answerOf(() -> x.ofCell(0, 4, 3)), -1);
        for (int bad : new int[] {-1, 4, Meshes.LEAST, Meshes.MOST}) {
            Due.refused(x, "what of " + bad, Meshes.NO_VALUE, () -> x.ofCell(4, 4, bad));
        }
    }

    // ---- Promises 21 and 22

    private static void soundInEachState() {
        Due.by("Promise 21", "Returns whether all is SOUND: the BEST LAYOUT crosses in no KNOWN cell, and no"
                + " LAYOUT has fewer"
                + " BEATS; KNOWN cells are BROKEN; the sum of all USES is what all TILES that were done, and"
                + " the BEATS of"
                + " that which is being done, took; of a work that runs less than all BEATS went by.");
        Pulsemesh x = Meshes.shaped(7, 3, 6);
        Due.same("new", x.isSound(), true);
        Meshes.tellAll(x, 2, -3);
        x.checked(true);
        x.broken(0, 0, true);
        x.test();
        x.broken(1, 1, true);
        Due.same("told", x.isSound(), true);
        int left = x.start();
        for (int gone = 0; gone < 60 && left > 0; gone++) {
            Due.same("with beats left", x.isSound(), true);
            x.broken(gone % 5, gone % 3, gone % 4 != 0);
            left = x.beat(1);
        }
        Due.same("ended", x.isSound(), true);
        x.shape(1, 1, 1);
        x.start();
        Due.same("the next one", x.isSound(), true);
        x.beat(300);
        Meshes.breakAll(x);
        Due.same("all are broken", x.isSound(), true);
        x.test();
        Due.same("all are known", x.isSound(), true);
        Meshes.mendAll(x);
        Due.same("all are whole", x.isSound(), true);
    }

    private static void digestOfEachState() {
        Due.by("Promise 22", "A number d starts with 5659; for each of the following numbers v, d becomes d * 31 + v");
        for (int stage = 0; stage < STAGES; stage++) {
            dueDigest("stage " + stage, atStage(stage));
        }
        dueDigest("new", new Pulsemesh());
        Pulsemesh x = Meshes.twoByTwoDone(false);
        x.bend(1, 0, -999);
        x.kind(2);
        dueDigest("less than 0 among the results", x);
    }

    private static void digestWrapsAround() {
        Due.by("Promise 22", "which wraps around as a 64-bit integer");
        Pulsemesh x = new Pulsemesh();
        BigInteger whole = digestOf(x);
        Due.same("it is far out of 64 bits", whole.bitLength() > 640, true);
        Due.same("digest", BigInteger.valueOf(x.digest()), wrapped(whole));
    }

    private static void digestReturns() {
        Due.by("Promise 22", "Returns d.");
        Pulsemesh x = Meshes.twoByTwo();
        long first = x.digest();
        Due.same("twice", x.digest(), first);
        x.left(0, 0, -1);
        Due.same("it is another one then", x.digest() != first, true);
        x.left(0, 0, 1);
        Due.same("and the first one again", x.digest(), first);
    }

    private static void dueDigest(String when, Pulsemesh x) {
        BigInteger want = wrapped(digestOf(x));
        Due.same(when + ": digest", BigInteger.valueOf(x.digest()), want);
    }

    private static BigInteger wrapped(BigInteger whole) {
        BigInteger rest = whole.mod(WRAP);
        return rest.testBit(63) ? rest.subtract(WRAP) : rest;
    }

    private static BigInteger digestOf(Pulsemesh x) {
        BigInteger d = BigInteger.valueOf(5659);
        for (int v : numbersOf(x)) {
            d = d.multiply(BigInteger.valueOf(31)).add(BigInteger.valueOf(v));
        }
        return d;
    }

    private static List<Integer> numbersOf(Pulsemesh x) {
        List<Integer> numbers = new ArrayList<>();
        for (int what = 0; what <= 15; what++) {
            numbers.add(x.mesh(what));
        }
        for (int number = 0; number < 100; number++) {
            numbers.add(x.ofCell(number / 20, number / 4 % 5, number % 4));
        }
        for (int i = 0; i < numbers.get(14); i++) {
            for (int j = 0; j < numbers.get(15); j++) {
                numbers.add(x.result(i, j));
            }
        }
        for (int i = 0; i < numbers.get(0) + numbers.get(4); i++) {
            for (int j = 0; j < numbers.get(2) + numbers.get(4); j++) {
                numbers.add(x.plain(i, j));
            }
        }
        for (int what = 0; what <= 4; what++) {
            numbers.add(x.best(what));
        }
        numbers.add(x.saved());
        numbers.add(x.isSound() ? 1 : 0);
        return numbers;
    }
}
