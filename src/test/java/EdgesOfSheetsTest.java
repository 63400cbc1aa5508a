import java.util.function.Supplier;

/** The edges of promises 24 to 26: sheet, cell, copy. */
final class EdgesOfSheetsTest {
    private static final int BAD = SagaDesk.BAD, NONE = SagaDesk.NONE;
    private static final int MISSING = -11, OUTSIDE = -12, UNLIKE = -13, BELOW = -14;

    public static void main(String[] args) {
        sheetIsRefused();
        sheetOfNoneAndOfForty();
        sheetIsRefusedInThisOrder();
        sheetBecomesMissing();
        sheetIsAllZeroAnew();
        cellIsRefused();
        cellOfAMissingSheet();
        cellAtThePlacesEnds();
        cellsOfBytesWrapAround();
        cellsOfIntsDoNot();
        copyIsRefused();
        copyOfMissingSheets();
        copyOfUnlikeSheets();
        copyAtThePlacesEnds();
        copyOfNone();
        copyOfTooMany();
        copyOntoItself();
        copyOfAll();
        refusalsChangeNothing();
        Due.end();
    }

    /** Whether item i of a sheet of ints or bytes is v (0 .. 9999), told by sheet 3 and account f. */
    private static boolean isItem(SagaDesk x, int sheet, int sort, int i, int v) {
        x.sheet(3, sort, 1);
        Due.is("a copy of item " + i, x.copy(sheet, i, 3, 0, 1), 1);
        x.set(5, v);
        return x.tells(3, 5, 0, 0) == NONE;
    }

    private static SagaDesk desk(int sort, int n) {
        SagaDesk desk = new SagaDesk();
        Due.is("sheet", desk.sheet(0, sort, n), 1);
        return desk;
    }

    // ---- promise 24: sheet

    private static void sheetIsRefused() {
        for (int sort = -1; sort <= 1; sort++) {
            int asked = sort;
            Due.edges("sheet, of sort " + sort, 0, 3, BAD, sheet -> new SagaDesk().sheet(sheet, asked, 1));
        }
        Due.edges("sheet, sort", -1, 1, BAD, sort -> new SagaDesk().sheet(0, sort, 1));
        Due.is("41 bytes", new SagaDesk().sheet(0, 0, 41), BAD);
        Due.is("41 ints", new SagaDesk().sheet(0, 1, 41), BAD);
        Due.is("the most", new SagaDesk().sheet(0, 1, Integer.MAX_VALUE), BAD);
        Due.is("-1 bytes", new SagaDesk().sheet(0, 0, -1), BELOW);
        Due.is("-1 ints", new SagaDesk().sheet(0, 1, -1), BELOW);
        Due.is("the least", new SagaDesk().sheet(0, 0, Integer.MIN_VALUE), BELOW);
    }

    private static void sheetOfNoneAndOfForty() {
        for (int sort = 0; sort <= 1; sort++) {
            SagaDesk x = new SagaDesk();
            Due.is("of none", x.sheet(0, sort, 0), 1);
            Due.is("it has none", Due.sizeOf(x, 0), 0);
            Due.is("of one", x.sheet(1, sort, 1), 1);
            Due.is("it has one", Due.sizeOf(x, 1), 1);
            Due.is("of forty", x.sheet(3, sort, 40), 1);
            Due.is("it has forty", Due.sizeOf(x, 3), 40);
            Due.is("the others are missing", Due.sizeOf(x, 2), MISSING);
        }
    }

    // "BAD: no such SHEET, sort; n above 40; -14."
    private static void sheetIsRefusedInThisOrder() {
        SagaDesk x = new SagaDesk();
        Due.is("no such sheet, -1 items", x.sheet(4, 0, -1), BAD);
        Due.is("no such sort, -1 items", x.sheet(0, 2, -1), BAD);
        Due.is("no such sort, -1 items", x.sheet(0, -2, -1), BAD);
        Due.is("no such sheet, to be missing", x.sheet(4, -1, 0), BAD);
        Due.is("no such sheet, to be missing", x.sheet(-1, -1, 0), BAD);
    }

    // "or missing (sort -1: n does not matter): 1"
    private static void sheetBecomesMissing() {
        int[] some = {0, 1, 40, 41, -1, Integer.MIN_VALUE, Integer.MAX_VALUE};
        for (int n : some) {
            SagaDesk x = desk(1, 5);
            Due.is("missing, by " + n, x.sheet(0, -1, n), 1);
            Due.is("it is", x.cell(0, 0, 1), MISSING);
            Due.is("once more", x.sheet(0, -1, n), 1);
            Due.is("a new one", x.sheet(0, 1, 3), 1);
            Due.is("has its own size", Due.sizeOf(x, 0), 3);
        }
    }

    // "A SHEET becomes a row of n of a sort, all 0"
    private static void sheetIsAllZeroAnew() {
        SagaDesk x = desk(1, 40);
        for (int i = 0; i < 40; i++) {
            x.cell(0, i, 7);
        }
        x.sheet(0, 1, 2);
        Due.is("fewer", Due.sizeOf(x, 0), 2);
        Due.holds("0", isItem(x, 0, 1, 1, 0));
        x.sheet(0, 1, 40);
        for (int i = 0; i < 40; i += 13) {
            Due.holds("0 at " + i, isItem(x, 0, 1, i, 0));
        }
        x.cell(0, 0, 7);
        x.sheet(0, -1, 0);
        x.sheet(0, 0, 1);
        Due.holds("0 of another sort", isItem(x, 0, 0, 0, 0));
    }

    // ---- promise 25: cell

    private static void cellIsRefused() {
        SagaDesk x = new SagaDesk();
        for (int sheet = 0; sheet < 4; sheet++) {
            x.sheet(sheet, sheet % 2, 1);
        }
        Due.edges("cell, sheet", 0, 3, BAD, sheet -> x.cell(sheet, 0, 1));
        Due.is("BAD ahead of -12", x.cell(4, 9, 1), BAD);
    }

    // "BAD: no such SHEET; -11; -12."
    private static void cellOfAMissingSheet() {
        SagaDesk x = new SagaDesk();
        for (int i : new int[] {0, -1, 40, Integer.MAX_VALUE, Integer.MIN_VALUE}) {
            Due.is("-11 ahead of -12, " + i, x.cell(3, i, 1), MISSING);
        }
    }

    private static void cellAtThePlacesEnds() {
        for (int sort = 0; sort <= 1; sort++) {
            for (int n : new int[] {1, 2, 39, 40}) {
                SagaDesk x = desk(sort, n);
                Due.edges("cell of " + n, 0, n - 1, OUTSIDE, i -> x.cell(0, i, 1));
                Due.is("1", x.cell(0, n - 1, 1), 1);
            }
            Due.is("of none", desk(sort, 0).cell(0, 0, 1), OUTSIDE);
            Due.is("of none", desk(sort, 0).cell(0, -1, 1), OUTSIDE);
        }
    }

    // "(of bytes its lowest 8 bits)"
    private static void cellsOfBytesWrapAround() {
        int[] given = {0, 127, 128, 255, 256, 257, 511, -1, -128, -256, Integer.MAX_VALUE, Integer.MIN_VALUE};
        int[] due = {0, 127, 128, 255, 0, 1, 255, 255, 128, 0, 255, 0};
        for (int i = 0; i < given.length; i++) {
            SagaDesk x = desk(0, 2);
            Due.is("any number", x.cell(0, 1, given[i]), 1);
            Due.holds(given[i] + " as a byte", isItem(x, 0, 0, 1, due[i]));
            Due.holds("the other is 0", isItem(x, 0, 0, 0, 0));
        }
    }

    private static void cellsOfIntsDoNot() {
        int[] given = {0, 127, 128, 255, 256, 9999};
        for (int v : given) {
            SagaDesk x = desk(1, 2);
            Due.is("any number", x.cell(0, 0, v), 1);
            Due.holds(v + " as an int", isItem(x, 0, 1, 0, v));
            Due.holds("the other is 0", isItem(x, 0, 1, 1, 0));
        }
        int[] others = {-1, -256, 10000, 65536, Integer.MAX_VALUE, Integer.MIN_VALUE};
        for (int v : others) {
            SagaDesk x = desk(1, 1);
            Due.is("any number", x.cell(0, 0, v), 1);
            Due.holds(v + " is not its lowest bits", !isItem(x, 0, 1, 0, v & 255));
            Due.holds(v + " is no balance", !isItem(x, 0, 1, 0, 9999));
        }
    }

    // ---- promise 26: copy

    private static void copyIsRefused() {
        SagaDesk x = new SagaDesk();
        for (int sheet = 0; sheet < 4; sheet++) {
            x.sheet(sheet, 1, 1);
        }
        Due.edges("copy, sheet", 0, 3, BAD, sheet -> x.copy(sheet, 0, 1, 0, 1));
        Due.edges("copy, other", 0, 3, BAD, other -> x.copy(1, 0, other, 0, 1));
        SagaDesk y = new SagaDesk();
        Due.is("BAD ahead of -11", y.copy(0, 0, 4, 0, 1), BAD);
        Due.is("BAD ahead of -11", y.copy(4, 0, 0, 0, 1), BAD);
        Due.is("BAD ahead of -12", x.copy(4, 9, 0, 0, 1), BAD);
    }

    private static void copyOfMissingSheets() {
        SagaDesk x = desk(0, 3);
        Due.is("the other", x.copy(0, 0, 1, 0, 1), MISSING);
        Due.is("the one", x.copy(1, 0, 0, 0, 1), MISSING);
        Due.is("both", x.copy(1, 0, 2, 0, 1), MISSING);
        Due.is("ahead of -12", x.copy(0, 9, 1, 0, -1), MISSING);
        Due.is("ahead of -12", x.copy(1, -1, 0, 9, 1), MISSING);
    }

    // "-13: they are of unlike sorts; -12"
    private static void copyOfUnlikeSheets() {
        SagaDesk x = desk(0, 3);
        x.sheet(1, 1, 3);
        Due.is("bytes to ints", x.copy(0, 0, 1, 0, 1), UNLIKE);
        Due.is("ints to bytes", x.copy(1, 0, 0, 0, 1), UNLIKE);
        Due.is("also none of them", x.copy(0, 0, 1, 0, 0), UNLIKE);
        Due.is("ahead of -12", x.copy(0, 9, 1, 0, 1), UNLIKE);
        Due.is("ahead of -12", x.copy(0, 0, 1, 0, -1), UNLIKE);
        x.sheet(1, 0, 3);
        Due.is("bytes to bytes", x.copy(0, 0, 1, 0, 3), 3);
    }

    private static void copyAtThePlacesEnds() {
        SagaDesk x = desk(1, 5);
        x.sheet(1, 1, 3);
        Due.edges("one, from", 0, 4, OUTSIDE, i -> x.copy(0, i, 1, 0, 1));
        Due.edges("one, to", 0, 2, OUTSIDE, j -> x.copy(0, 0, 1, j, 1));
        Due.edges("two, from", 0, 3, OUTSIDE, i -> x.copy(0, i, 1, 0, 2));
        Due.edges("two, to", 0, 1, OUTSIDE, j -> x.copy(0, 0, 1, j, 2));
        Due.edges("how many, by the one", 0, 2, OUTSIDE, n -> x.copy(0, 3, 1, 0, n));
        Due.edges("how many, by the other", 0, 3, OUTSIDE, n -> x.copy(0, 0, 1, 0, n));
        Due.is("so many", x.copy(0, 2, 1, 0, 3), 3);
        SagaDesk y = desk(1, 40);
        y.sheet(1, 1, 40);
        Due.edges("of forty", 0, 40, OUTSIDE, n -> y.copy(0, 0, 1, 0, n));
        Due.is("the last", y.copy(0, 39, 1, 39, 1), 1);
        Due.is("behind the last", y.copy(0, 40, 1, 39, 1), OUTSIDE);
    }

    private static void copyOfNone() {
        SagaDesk x = desk(0, 5);
        x.sheet(1, 0, 0);
        x.sheet(2, 0, 5);
        x.cell(0, 0, 1);
        Due.is("none", x.copy(0, 0, 2, 0, 0), 0);
        Due.is("none, of none", x.copy(1, 0, 2, 0, 0), 0);
        Due.is("none, to none", x.copy(0, 0, 1, 0, 0), 0);
        Due.is("one, of none", x.copy(1, 0, 2, 0, 1), OUTSIDE);
        Due.is("one, to none", x.copy(0, 0, 1, 0, 1), OUTSIDE);
        Due.is("none, from far outside", x.copy(0, 6, 2, 0, 0), OUTSIDE);
        Due.is("none, to far outside", x.copy(0, 0, 2, 6, 0), OUTSIDE);
        Due.is("none, from below", x.copy(0, -1, 2, 0, 0), OUTSIDE);
        Due.is("none, to below", x.copy(0, 0, 2, -1, 0), OUTSIDE);
        Due.holds("nothing came", isItem(x, 2, 0, 0, 0));
    }

    // "-12 (also with n below 0)"; places and numbers whose sum wraps around
    private static void copyOfTooMany() {
        SagaDesk x = desk(1, 5);
        x.sheet(1, 1, 5);
        int most = Integer.MAX_VALUE;
        int least = Integer.MIN_VALUE;
        int[][] outside = {{0, 0, -1}, {5, 5, -1}, {0, 0, least}, {5, 5, least}, {0, 0, most}, {1, 0, most}, {0, 1, most},
            {most, 0, 1}, {0, most, 1}, {most, most, most}, {most, 0, 2}, {least, 0, 0}, {0, least, 0},
            {least, least, least}, {-1, 0, 2}, {0, -1, 2}, {most, 0, least}, {3, 3, most - 2}};
        for (int[] o : outside) {
            Due.is("copy(0, " + o[0] + ", 1, " + o[1] + ", " + o[2] + ")", x.copy(0, o[0], 1, o[1], o[2]), OUTSIDE);
        }
    }

    // "n numbers .. come to another one's item j on (as they were)"
    private static void copyOntoItself() {
        for (int i = 0; i <= 3; i++) {
            for (int j = 0; j <= 3; j++) {
                int[] due = {1, 2, 3, 4, 5, 6};
                for (int k = 0; k < 3; k++) {
                    due[j + k] = 1 + i + k;
                }
                SagaDesk x = desk(1, 6);
                for (int k = 0; k < 6; k++) {
                    x.cell(0, k, 1 + k);
                }
                Due.is("three", x.copy(0, i, 0, j, 3), 3);
                for (int k = 0; k < 6; k++) {
                    Due.holds("from " + i + " to " + j + ", item " + k, isItem(x, 0, 1, k, due[k]));
                }
            }
        }
    }

    private static void copyOfAll() {
        SagaDesk x = desk(1, 40);
        x.sheet(1, 1, 40);
        for (int k = 0; k < 40; k++) {
            x.cell(0, k, 300 + k);
        }
        Due.is("all forty", x.copy(0, 0, 1, 0, 40), 40);
        for (int k = 0; k < 40; k++) {
            Due.holds("item " + k, isItem(x, 1, 1, k, 300 + k));
        }
        x.cell(1, 0, 1);
        Due.holds("the one is as it was", isItem(x, 0, 1, 0, 300));
    }

    private static void refusalsChangeNothing() {
        Supplier<SagaDesk> maker = () -> {
            SagaDesk desk = desk(0, 5);
            desk.sheet(1, 1, 5);
            desk.sheet(2, 1, 4);
            desk.cell(1, 0, 77);
            return desk;
        };
        Due.refused("sheets, BAD", BAD, maker, x -> x.sheet(4, 0, 1), x -> x.sheet(0, 2, 1), x -> x.sheet(0, 1, 41),
            x -> x.cell(4, 0, 1), x -> x.copy(0, 0, 4, 0, 1));
        Due.refused("sheets, -11", MISSING, maker, x -> x.cell(3, 0, 1), x -> x.copy(3, 0, 0, 0, 1),
            x -> x.copy(0, 0, 3, 0, 1));
        Due.refused("sheets, -12", OUTSIDE, maker, x -> x.cell(1, 5, 1), x -> x.copy(2, 0, 1, 2, 4),
            x -> x.copy(2, 0, 1, 0, -1));
        Due.refused("sheets, -13", UNLIKE, maker, x -> x.copy(0, 0, 1, 0, 5));
        Due.refused("sheets, -14", BELOW, maker, x -> x.sheet(1, 1, -1));
        SagaDesk y = maker.get();
        y.sheet(1, 1, -1);
        y.sheet(1, 0, 41);
        y.cell(1, 5, 1);
        y.cell(1, -1, 1);
        y.copy(2, 0, 1, 0, 5);
        y.copy(2, 0, 1, 0, -1);
        y.copy(0, 0, 1, 0, 1);
        Due.holds("its items are as they were", isItem(y, 1, 1, 0, 77));
    }
}
