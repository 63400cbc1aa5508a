/** Promises 21 to 23: tells, film, count. */
final class ToldTest {
    private static final int BAD = SagaDesk.BAD, STATE = SagaDesk.STATE, NONE = SagaDesk.NONE;

    public static void main(String[] args) {
        refusals();
        theFirstOtherwise();
        accounts();
        numbers();
        numbersOfTriesToCome();
        filming();
        counting();
        Due.end();
    }

    private static void refusals() {
        SagaDesk x = Due.desk("mark;add a 5;swap a b", "mark");
        Due.is("sheet -1", x.tells(-1, 0, 0, 0), BAD);
        Due.is("sheet 4", x.tells(4, 0, 0, 0), BAD);
        Due.is("account -1", x.tells(0, -1, 0, 0), BAD);
        Due.is("account 6", x.tells(0, 6, 0, 1), BAD);
        Due.is("saga -1", x.tells(0, 0, -1, 0), BAD);
        Due.is("saga 3", x.tells(0, 0, 3, 0), BAD);
        int[] bad = {-1, 2, 10, 99, 112, 199, 212, 300, -100, Integer.MAX_VALUE, Integer.MIN_VALUE};
        for (int what : bad) {
            Due.is("what " + what, x.tells(0, 0, 0, what), BAD);
        }
        Due.is("missing", x.tells(0, 0, 0, 0), -11);
        Due.is("missing", x.tells(0, 0, 0, 1), -11);
        Due.is("STATE ahead of -11", x.tells(0, 0, 0, 111), STATE);
        Due.is("STATE ahead of -11", x.tells(0, 0, 0, 200), STATE);
        x.begin(0, 0);
        Due.is("no such step", x.tells(0, 0, 0, 103), BAD);
        Due.is("no such step", x.tells(0, 0, 0, 211), BAD);
        Due.is("a mark", x.tells(0, 0, 0, 100), BAD);
        Due.is("a swap", x.tells(0, 0, 0, 202), BAD);
        Due.is("missing", x.tells(0, 0, 0, 101), -11);
        x.sheet(0, 1, 21);
        Due.is("more than 20", x.tells(0, 0, 0, 0), BAD);
        Due.is("more than 20", x.tells(0, 0, 0, 101), BAD);
        x.sheet(0, 1, 20);
        Due.is("20", x.tells(0, 0, 0, 0), 0);
        Due.is("20", x.tells(0, 0, 0, 101), 0);
        Due.is("20", x.tells(0, 0, 0, 201), NONE);
    }

    private static void theFirstOtherwise() {
        SagaDesk x = Due.desk("add a 5;add a 6;take a 200");
        x.begin(1, 0);
        x.film(2, 0, 8);
        Due.is("as filmed", x.tells(2, 0, 0, 0), NONE);
        int[] balances = {105, 111, 111, 105, 100, 100, 100, 100};
        x.sheet(3, 1, 8);
        for (int i = 0; i < 8; i++) {
            Due.is("so far", x.tells(3, 0, 0, 0), i);
            x.cell(3, i, balances[i]);
        }
        Due.is("as it is", x.tells(3, 0, 0, 0), NONE);
        x.cell(3, 5, 99);
        x.cell(3, 3, 0);
        Due.is("the first", x.tells(3, 0, 0, 0), 3);
        x.sheet(3, 0, 1);
        x.cell(3, 0, 105 + 256);
        Due.is("bytes", x.tells(3, 0, 0, 0), NONE);
        x.set(0, 200);
        x.cell(3, 0, 205);
        Due.is("bytes are 0 .. 255", x.tells(3, 0, 0, 0), NONE);
        x.tick();
        Due.is("from now on", x.tells(3, 0, 0, 0), 0);
        x.sheet(3, 1, 0);
        Due.is("an empty sheet", x.tells(3, 0, 0, 0), NONE);
        x.plan(1, 1, 0, 1);
        x.film(3, 0, 1);
        Due.is("with plans", x.tells(3, 0, 0, 0), NONE);
        x.plan(1, 1, 0, 0);
        Due.is("without", x.tells(3, 0, 0, 0), 0);
    }

    private static void accounts() {
        SagaDesk x = Due.desk("move a b 5;take b 5;add c 5");
        x.begin(0, 0);
        x.sheet(0, 1, 0);
        Due.is("an empty sheet", x.tells(0, 0, 0, 1), 63);
        x.film(0, 4, 3);
        Due.is("those that stay", x.tells(0, 0, 0, 1), 56);
        x.film(0, 4, 2);
        Due.is("till then", x.tells(0, 0, 0, 1), 60);
        x.film(0, 1, 3);
        Due.is("one", x.tells(0, 5, 2, 1), 2);
        x.cell(0, 0, -1);
        Due.is("none", x.tells(0, 1, 0, 1), 0);
    }

    private static void numbers() {
        SagaDesk x = Due.desk("add a 5;take b 3;take c 90");
        x.begin(0, 0);
        x.film(0, 0, 4);
        Due.is("just its own", x.tells(0, 0, 0, 100), 1);
        Due.is("just its own", x.tells(0, 0, 0, 200), 5);
        Due.is("any of another account", x.tells(0, 0, 0, 101), 20);
        Due.is("any of another account", x.tells(0, 0, 0, 201), 0);
        x.cell(0, 3, 0);
        Due.is("none", x.tells(0, 0, 0, 100), 0);
        Due.is("none", x.tells(0, 0, 0, 200), NONE);
        x.sheet(0, 1, 0);
        Due.is("an empty sheet", x.tells(0, 0, 0, 102), 20);
        Due.is("an empty sheet", x.tells(0, 0, 0, 202), 0);
        // By which it fails: from 11 on.
        x.set(2, 10);
        x.sheet(0, 1, 3);
        x.cell(0, 0, 105);
        x.cell(0, 1, 105);
        x.cell(0, 2, 105);
        Due.is("all", x.tells(0, 0, 0, 102), 20);
        x.film(0, 0, 5);
        Due.is("as it fails", x.tells(0, 0, 0, 102), 9);
        Due.is("as it fails", x.tells(0, 0, 0, 202), 11);
    }

    private static void numbersOfTriesToCome() {
        SagaDesk x = Due.desk("add a 5;take b 101", "mark;take b 101;mark");
        x.begin(0, 0);
        x.begin(1, 0);
        x.tick();
        Due.is("balance", x.count(10), 110);
        // What is done is undone by the number by which it was done.
        x.film(0, 0, 4);
        Due.is("undone by 5 each", x.tells(0, 0, 0, 100), 20);
        SagaDesk y = Due.desk("add a 5;take b 101", "mark;add a 1");
        y.begin(0, 0);
        y.begin(1, 0);
        y.sheet(0, 1, 4);
        y.cell(0, 0, 100 + 7 + 5);
        y.cell(0, 1, 100 + 7 + 5);
        y.cell(0, 2, 100);
        y.cell(0, 3, 100);
        Due.is("another saga of the text keeps its own", y.tells(0, 0, 0, 100), 1);
        Due.is("and it is undone by the new one", y.tells(0, 0, 0, 200), 7);
        Due.is("likewise the other", y.tells(0, 0, 1, 200), 7);
        y.film(0, 0, 4);
        Due.is("nothing truly came", y.tells(0, 0, 0, 200), 5);
        Due.is("nothing truly came", y.step(0, 0, 3), 5);
        // One that has ended has no tries to come.
        Due.ticks(y, 4);
        y.film(0, 0, 2);
        Due.is("all", y.tells(0, 0, 0, 100), 20);
    }

    private static void filming() {
        SagaDesk x = Due.desk("add a 5;take b 101");
        x.begin(0, 0);
        Due.is("sheet -1", x.film(-1, 0, 1), BAD);
        Due.is("sheet 4", x.film(4, 0, 1), BAD);
        Due.is("account -1", x.film(0, -1, 1), BAD);
        Due.is("account 6", x.film(0, 6, 1), BAD);
        Due.is("n -1", x.film(0, 0, -1), BAD);
        Due.is("n 21", x.film(0, 0, 21), BAD);
        Due.is("it is missing still", x.cell(0, 0, 0), -11);
        Due.is("n 0", x.film(0, 0, 0), 0);
        Due.is("a sheet of none", x.cell(0, 0, 0), -12);
        x.sheet(0, 0, 40);
        Due.is("n 20", x.film(0, 0, 20), 20);
        Due.is("of 20", x.cell(0, 20, 0), -12);
        Due.is("it tells", x.tells(0, 0, 0, 0), NONE);
        x.cell(0, 19, 356);
        Due.is("it is of ints", x.tells(0, 0, 0, 0), 19);
        Due.is("nothing truly came", x.count(10), 100);
    }

    private static void counting() {
        SagaDesk x = Due.desk("hold a 5;mark;take b 101", "mark;mark;mark");
        Due.feed(x, "  ");
        x.begin(0, 0);
        x.begin(1, 1);
        Due.ticks(x, 2);
        int[] due = {2, 2, 6, 2, 5, 3};
        for (int what = 0; what < due.length; what++) {
            Due.is("count(" + what + ")", x.count(what), due[what]);
        }
        Due.is("a", x.count(10), 95);
        Due.is("f", x.count(15), 100);
        x.tick();
        Due.is("RUNNING or BACK", x.count(3), 1);
        Due.is("it is BACK", x.told(0, 0), 2);
        Due.ticks(x, 2);
        Due.is("none", x.count(3), 0);
        Due.is("held", x.count(4), 0);
        int[] bad = {-1, 6, 9, 16, Integer.MAX_VALUE, Integer.MIN_VALUE};
        for (int what : bad) {
            Due.is("count(" + what + ")", x.count(what), BAD);
        }
    }
}
