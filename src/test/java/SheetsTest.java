/** Promises 24 to 26: sheet, cell, copy. What stands in a sheet is asked by tells(), of balances that are set. */
final class SheetsTest {
    private static final int BAD = SagaDesk.BAD;

    public static void main(String[] args) {
        sheets();
        cells();
        copies();
        copiesOntoItself();
        Due.end();
    }

    /** Whether item i of a sheet of ints is v: it comes alone to sheet 3, and the balance of a is set to v. */
    private static boolean isItem(SagaDesk x, int sheet, int i, int v) {
        x.sheet(3, 1, 1);
        Due.is("copy of item " + i, x.copy(sheet, i, 3, 0, 1), 1);
        x.set(0, v);
        return x.tells(3, 0, 0, 0) == SagaDesk.NONE;
    }

    private static void sheets() {
        SagaDesk x = new SagaDesk();
        Due.is("sheet -1", x.sheet(-1, 0, 1), BAD);
        Due.is("sheet 4", x.sheet(4, 0, 1), BAD);
        Due.is("sort -2", x.sheet(0, -2, 1), BAD);
        Due.is("sort 2", x.sheet(0, 2, 1), BAD);
        Due.is("sort 2 ahead of -14", x.sheet(0, 2, -1), BAD);
        Due.is("n 41", x.sheet(0, 1, 41), BAD);
        Due.is("n -1", x.sheet(0, 1, -1), -14);
        Due.is("n of the least int", x.sheet(0, 0, Integer.MIN_VALUE), -14);
        Due.is("n of the most", x.sheet(0, 0, Integer.MAX_VALUE), BAD);
        Due.is("still missing", x.cell(0, 0, 1), -11);
        Due.is("n 40", x.sheet(0, 1, 40), 1);
        Due.is("its last", x.cell(0, 39, 7), 1);
        Due.is("renewed", x.sheet(0, 1, 40), 1);
        Due.is("all 0", x.cell(0, 0, 0), 1);
        x.sheet(1, 1, 20);
        x.copy(0, 20, 1, 0, 20);
        x.set(0, 0);
        Due.is("all 0", x.tells(1, 0, 0, 0), SagaDesk.NONE);
        Due.is("n 0", x.sheet(0, 0, 0), 1);
        Due.is("no item", x.cell(0, 0, 1), -12);
        Due.is("missing, n 99", x.sheet(0, -1, 99), 1);
        Due.is("missing", x.cell(0, 0, 1), -11);
        Due.is("missing, n -9", x.sheet(0, -1, -9), 1);
    }

    private static void cells() {
        SagaDesk x = new SagaDesk();
        Due.is("sheet -1", x.cell(-1, 0, 0), BAD);
        Due.is("sheet 4", x.cell(4, 0, 0), BAD);
        Due.is("missing", x.cell(2, 0, 0), -11);
        x.sheet(2, 0, 3);
        Due.is("-1", x.cell(2, -1, 0), -12);
        Due.is("3", x.cell(2, 3, 0), -12);
        Due.is("the most", x.cell(2, Integer.MAX_VALUE, 0), -12);
        Due.is("0", x.cell(2, 0, 511), 1);
        Due.is("2", x.cell(2, 2, -256), 1);
        Due.is("1", x.cell(2, 1, 258), 1);
        SagaDesk y = new SagaDesk();
        y.sheet(0, 0, 1);
        y.cell(0, 0, -56);
        y.set(0, 200);
        Due.is("the lowest 8 bits", y.tells(0, 0, 0, 0), SagaDesk.NONE);
        y.sheet(0, 1, 1);
        y.cell(0, 0, 200 + 256);
        Due.is("ints are kept whole", y.tells(0, 0, 0, 0), 0);
        y.set(0, 456);
        Due.is("ints are kept whole", y.tells(0, 0, 0, 0), SagaDesk.NONE);
    }

    private static void copies() {
        SagaDesk x = new SagaDesk();
        Due.is("sheet -1", x.copy(-1, 0, 0, 0, 0), BAD);
        Due.is("other 4", x.copy(0, 0, 4, 0, 0), BAD);
        x.sheet(0, 1, 5);
        Due.is("the other is missing", x.copy(0, 0, 1, 0, 0), -11);
        Due.is("it is missing", x.copy(1, 0, 0, 0, 0), -11);
        x.sheet(1, 0, 5);
        Due.is("unlike", x.copy(0, 9, 1, 0, 1), -13);
        x.sheet(1, 1, 4);
        int most = Integer.MAX_VALUE;
        int[][] outside = {{-1, 0, 1}, {0, -1, 1}, {5, 0, 1}, {0, 4, 1}, {4, 0, 2}, {0, 3, 2}, {0, 0, 5}, {0, 0, -1},
            {6, 0, 0}, {0, 5, 0}, {1, 0, most}, {most, 0, most}, {most, 0, 1}, {0, most, 1},
            {0, 0, Integer.MIN_VALUE}};
        for (int[] o : outside) {
            Due.is("copy " + o[0] + " " + o[1] + " " + o[2], x.copy(0, o[0], 1, o[1], o[2]), -12);
        }
        Due.is("none, at the ends", x.copy(0, 5, 1, 4, 0), 0);
        for (int i = 0; i < 5; i++) {
            x.cell(0, i, 10 + i);
        }
        Due.is("three", x.copy(0, 2, 1, 1, 3), 3);
        int[] due = {0, 12, 13, 14};
        for (int i = 0; i < 4; i++) {
            Due.holds("item " + i + " is " + due[i], isItem(x, 1, i, due[i]));
        }
    }

    private static void copiesOntoItself() {
        int[][] due = {{1, 1, 2, 3, 5}, {2, 3, 4, 4, 5}};
        for (int way = 0; way < 2; way++) {
            for (int i = 0; i < 5; i++) {
                SagaDesk x = new SagaDesk();
                x.sheet(0, 1, 5);
                for (int k = 0; k < 5; k++) {
                    x.cell(0, k, 1 + k);
                }
                Due.is("onto itself", x.copy(0, way, 0, 1 - way, 3), 3);
                Due.holds("item " + i + ", way " + way, isItem(x, 0, i, due[way][i]));
            }
        }
    }
}
