import java.util.function.Supplier;

/** The edges of promises 21 to 23: tells, film, count. */
final class EdgesOfToldTest {
    private static final int BAD = SagaDesk.BAD, STATE = SagaDesk.STATE, NONE = SagaDesk.NONE, MISSING = -11;
    /** Up for eleven ticks, one that fails, and down for eleven. */
    private static final String UP_AND_DOWN =
        "add a 1;add a 1;add a 1;add a 1;add a 1;add a 1;add a 1;add a 1;add a 1;add a 1;add a 1;take f 101";

    public static void main(String[] args) {
        tellsIsRefused();
        tellsRefusesWhat();
        tellsIsBadAheadOfState();
        tellsOfAnIdleSaga();
        tellsOfStepsThatAreNone();
        tellsOfAMissingSheet();
        tellsOfMoreThanTwenty();
        tellsOfAnEmptySheet();
        theFirstOtherwiseOfTwenty();
        accountsAtTheirEdges();
        numbersAtTheirEdges();
        numbersOfTheLastStep();
        numbersByWhichItFails();
        numbersOfOneSagaAlone();
        numbersOfTriesToCome();
        bytesAreNeverNegative();
        filmIsRefused();
        filmOfNoneAndOfTwenty();
        filmIsOfInts();
        countIsRefused();
        countAtItsEdges();
        refusalsChangeNothing();
        Due.end();
    }

    private static SagaDesk begun(String... texts) {
        SagaDesk desk = Due.desk(texts);
        for (int s = 0; s < texts.length; s++) {
            desk.begin(s, s);
        }
        return desk;
    }

    private static void fill(SagaDesk desk, int sheet, int... items) {
        desk.sheet(sheet, 1, items.length);
        for (int i = 0; i < items.length; i++) {
            desk.cell(sheet, i, items[i]);
        }
    }

    // ---- promise 21: tells

    private static void tellsIsRefused() {
        SagaDesk x = begun("add a 1");
        x.begin(1, 0);
        x.begin(2, 0);
        for (int sheet = 0; sheet < 4; sheet++) {
            x.sheet(sheet, 1, 1);
        }
        for (int what : new int[] {0, 1, 100, 200}) {
            Due.edges("tells, sheet, " + what, 0, 3, BAD, sheet -> x.tells(sheet, 0, 0, what));
            Due.edges("tells, account, " + what, 0, 5, BAD, a -> x.tells(0, a, 0, what));
            Due.edges("tells, saga, " + what, 0, 2, BAD, s -> x.tells(0, 0, s, what));
        }
    }

    // "what (0, 1, 100 .. 111, 200 .. 211)"
    private static void tellsRefusesWhat() {
        SagaDesk x = begun(UP_AND_DOWN);
        x.sheet(0, 1, 1);
        for (int what = -101; what <= 320; what++) {
            boolean isAsked = what == 0 || what == 1 || what >= 100 && what <= 111 || what >= 200 && what <= 211;
            Due.is("tells by " + what + " is BAD", x.tells(0, 0, 0, what) == BAD ? 1 : 0, isAsked ? 0 : 1);
        }
        Due.is("the most", x.tells(0, 0, 0, Integer.MAX_VALUE), BAD);
        Due.is("the least", x.tells(0, 0, 0, Integer.MIN_VALUE), BAD);
    }

    // "BAD: SHEET, ACCOUNT, SAGA, what ..; STATE"
    private static void tellsIsBadAheadOfState() {
        SagaDesk x = begun("mark");
        Due.is("sheet", x.tells(4, 0, 1, 100), BAD);
        Due.is("account", x.tells(0, 6, 1, 100), BAD);
        Due.is("saga", x.tells(0, 0, 3, 100), BAD);
        Due.is("what", x.tells(0, 0, 1, 112), BAD);
        Due.is("what", x.tells(0, 0, 1, 99), BAD);
        Due.is("what", x.tells(0, 0, 1, 199), BAD);
        Due.is("what", x.tells(0, 0, 1, 212), BAD);
        Due.is("all good, but IDLE", x.tells(0, 0, 1, 100), STATE);
        Due.is("BAD ahead of -11", x.tells(0, 0, 0, 2), BAD);
        Due.is("BAD ahead of -11", x.tells(0, 6, 0, 0), BAD);
    }

    // "STATE: the SAGA is IDLE (100 ..)"
    private static void tellsOfAnIdleSaga() {
        SagaDesk x = begun("mark");
        x.sheet(0, 1, 0);
        x.sheet(1, 1, 21);
        int[] asked = {100, 111, 200, 211};
        for (int what : asked) {
            Due.is("of an idle one, " + what, x.tells(0, 0, 2, what), STATE);
            Due.is("ahead of -11, " + what, x.tells(3, 0, 2, what), STATE);
            Due.is("ahead of more than 20, " + what, x.tells(1, 0, 2, what), STATE);
        }
        Due.is("what 0 asks for no saga", x.tells(0, 0, 2, 0), NONE);
        Due.is("nor does what 1", x.tells(0, 0, 2, 1), 63);
        Due.is("yet one there must be", x.tells(0, 0, 3, 0), BAD);
        Due.is("yet one there must be", x.tells(0, 0, -1, 1), BAD);
    }

    // "BAD: no such STEP, or one without a NUMBER; -11"
    private static void tellsOfStepsThatAreNone() {
        SagaDesk x = begun("add a 1;take a 1;move a b 1;hold a 1;swap a b;mark");
        x.sheet(0, 1, 0);
        for (int step = 0; step < 12; step++) {
            boolean isOne = step < 4;
            Due.is("how many of step " + step, x.tells(0, 0, 0, 100 + step), isOne ? 20 : BAD);
            Due.is("the least of step " + step, x.tells(0, 0, 0, 200 + step), isOne ? 0 : BAD);
            Due.is("ahead of -11, or behind, " + step, x.tells(1, 0, 0, 100 + step), isOne ? MISSING : BAD);
        }
    }

    private static void tellsOfAMissingSheet() {
        SagaDesk x = begun("add a 1");
        for (int what : new int[] {0, 1, 100, 200}) {
            Due.is("missing", x.tells(3, 0, 0, what), MISSING);
        }
        x.film(3, 0, 0);
        Due.is("there it is", x.tells(3, 0, 0, 0), NONE);
        x.sheet(3, -1, 0);
        Due.is("missing again", x.tells(3, 0, 0, 0), MISSING);
    }

    // "BAD: it tells more than 20"
    private static void tellsOfMoreThanTwenty() {
        for (int what : new int[] {0, 1, 100, 200}) {
            SagaDesk x = begun("add a 1");
            Due.edges("a row of ints, " + what, 0, 20, BAD, n -> n >= 0 && n <= 40 && x.sheet(0, 1, n) == 1
                ? x.tells(0, 0, 0, what) : BAD);
            x.sheet(0, 0, 20);
            Due.holds("20 bytes", x.tells(0, 0, 0, what) != BAD);
            x.sheet(0, 0, 21);
            Due.is("21 bytes", x.tells(0, 0, 0, what), BAD);
            x.sheet(0, 1, 40);
            Due.is("40", x.tells(0, 0, 0, what), BAD);
        }
    }

    private static void tellsOfAnEmptySheet() {
        SagaDesk x = begun("add a 5");
        x.sheet(0, 0, 0);
        Due.is("none is otherwise", x.tells(0, 0, 0, 0), NONE);
        Due.is("of all accounts it is so", x.tells(0, 0, 0, 1), 63);
        Due.is("by all numbers", x.tells(0, 0, 0, 100), 20);
        Due.is("the least", x.tells(0, 0, 0, 200), 0);
    }

    // "behind 1, 2, .. TICKS (20 at most): the first (from 0) that is otherwise; NONE"
    private static void theFirstOtherwiseOfTwenty() {
        SagaDesk x = begun(UP_AND_DOWN);
        int[] due = new int[20];
        for (int i = 0; i < 20; i++) {
            due[i] = i < 11 ? 101 + i : 111 - Math.max(0, i - 11);
        }
        fill(x, 0, due);
        Due.is("none", x.tells(0, 0, 0, 0), NONE);
        for (int i = 0; i < 20; i++) {
            x.cell(0, i, due[i] + 1);
            Due.is("the one at " + i, x.tells(0, 0, 0, 0), i);
            x.cell(0, i, due[i]);
        }
        x.cell(0, 19, 0);
        x.cell(0, 5, 0);
        Due.is("the first of two", x.tells(0, 0, 0, 0), 5);
        Due.is("the first is behind 1 tick, not behind none", x.tells(0, 1, 0, 0), 0);
        Due.is("nothing truly came", x.count(10), 100);
    }

    // "ACCOUNTS (bits) of which it is so"
    private static void accountsAtTheirEdges() {
        SagaDesk x = begun("add a 1;add f 1");
        fill(x, 0, 101, 101);
        Due.is("the first", x.tells(0, 5, 0, 1), 1);
        fill(x, 0, 100, 101);
        Due.is("the last", x.tells(0, 0, 2, 1), 32);
        fill(x, 0, 100, 100);
        Due.is("those between", x.tells(0, 0, 0, 1), 30);
        fill(x, 0, 100);
        Due.is("all but one", x.tells(0, 0, 0, 1), 62);
        fill(x, 0, 99);
        Due.is("none", x.tells(0, 0, 0, 1), 0);
    }

    // "NUMBERS 0 .. 19 of a STEP of a SAGA: how many, the least"
    private static void numbersAtTheirEdges() {
        int[] numbers = {0, 1, 19, 20, 999};
        for (int number : numbers) {
            SagaDesk x = begun("add a " + number);
            x.film(0, 0, 1);
            boolean isOne = number <= 19;
            Due.is("how many, of " + number, x.tells(0, 0, 0, 100), isOne ? 1 : 0);
            Due.is("the least, of " + number, x.tells(0, 0, 0, 200), isOne ? number : NONE);
            fill(x, 0, 119);
            Due.is("it would be 19", x.tells(0, 0, 0, 200), 19);
            fill(x, 0, 120);
            Due.is("it would be 20", x.tells(0, 0, 0, 200), NONE);
            fill(x, 0, 100);
            Due.is("it would be 0", x.tells(0, 0, 0, 200), 0);
            fill(x, 0, 99);
            Due.is("it would be below 0", x.tells(0, 0, 0, 100), 0);
        }
    }

    private static void numbersOfTheLastStep() {
        SagaDesk x = begun("mark;mark;mark;mark;mark;mark;mark;mark;mark;mark;mark;add e 7");
        x.film(0, 4, 12);
        Due.is("how many of step 11", x.tells(0, 4, 0, 111), 1);
        Due.is("the least of step 11", x.tells(0, 4, 0, 211), 7);
        x.film(0, 4, 11);
        Due.is("ahead of it all", x.tells(0, 4, 0, 111), 20);
        Due.is("ahead of it the least", x.tells(0, 4, 0, 211), 0);
        Due.is("step 10 is a MARK", x.tells(0, 4, 0, 110), BAD);
    }

    private static void numbersByWhichItFails() {
        SagaDesk x = begun("add b 5;take a 7");
        x.set(0, 9);
        fill(x, 0, 105, 105, 100);
        Due.is("from 10 on it fails", x.tells(0, 1, 0, 101), 10);
        Due.is("the least", x.tells(0, 1, 0, 201), 10);
        fill(x, 0, 105, 105, 105);
        Due.is("till 9 it doesn't", x.tells(0, 1, 0, 101), 10);
        Due.is("the least", x.tells(0, 1, 0, 201), 0);
        x.set(0, 19);
        Due.is("all of them", x.tells(0, 1, 0, 101), 20);
        x.set(0, 18);
        Due.is("all but 19", x.tells(0, 1, 0, 101), 19);
    }

    private static void numbersOfOneSagaAlone() {
        SagaDesk x = Due.desk("add a 5");
        x.begin(0, 0);
        x.begin(2, 0);
        fill(x, 0, 100 + 5 + 3);
        Due.is("of the one", x.tells(0, 0, 0, 200), 3);
        Due.is("of the other", x.tells(0, 0, 2, 200), 3);
        Due.is("the text is as it was", x.step(0, 0, 3), 5);
        Due.is("truly its number is", x.run(1, 0), 110);
        SagaDesk y = begun("add a 5", "add b 6", "add c 7");
        for (int s = 0; s < 3; s++) {
            for (int a = 0; a < 3; a++) {
                fill(y, 0, 110);
                Due.is("account " + a + " by saga " + s, y.tells(0, a, s, 200), a == s ? 10 : NONE);
                fill(y, 0, 105 + a);
                Due.is("account " + a + " by saga " + s, y.tells(0, a, s, 100), a == s ? 1 : 20);
            }
        }
    }

    // "in TRIES to come": what is DONE was done by what it was
    private static void numbersOfTriesToCome() {
        SagaDesk x = begun("add a 5;take f 101");
        x.tick();
        x.film(0, 0, 3);
        Due.is("undone by 5", x.tells(0, 0, 0, 100), 20);
        Due.ticks(x, 2);
        x.film(0, 0, 3);
        Due.is("UNDONE", x.tells(0, 0, 0, 100), 20);
        SagaDesk y = begun("!;take a 101");
        y.tick();
        fill(y, 0, 93, 93);
        Due.is("tried again it is another", y.tells(0, 0, 0, 200), 7);
        Due.ticks(y, 2);
        Due.is("STUCK it is tried no more", y.tells(0, 0, 0, 100), 0);
    }

    // "of sort 0 bytes": a BALANCE above 255 is never told by one
    private static void bytesAreNeverNegative() {
        SagaDesk x = new SagaDesk();
        x.sheet(0, 0, 1);
        int[] balances = {0, 127, 128, 255};
        for (int balance : balances) {
            x.set(0, balance);
            x.cell(0, 0, balance);
            Due.is("a byte of " + balance, x.tells(0, 0, 0, 0), NONE);
            x.cell(0, 0, balance - 256);
            Due.is("its lowest bits", x.tells(0, 0, 0, 0), NONE);
        }
        x.set(0, 256);
        x.cell(0, 0, 256);
        Due.is("256 is none", x.tells(0, 0, 0, 0), 0);
        x.set(0, 0);
        Due.is("it is 0", x.tells(0, 0, 0, 0), NONE);
    }

    // ---- promise 22: film

    private static void filmIsRefused() {
        Due.edges("film, sheet", 0, 3, BAD, sheet -> new SagaDesk().film(sheet, 0, 1));
        Due.edges("film, account", 0, 5, BAD, a -> new SagaDesk().film(0, a, 1));
        Due.edges("film, n", 0, 20, BAD, n -> new SagaDesk().film(0, 0, n));
        SagaDesk x = new SagaDesk();
        x.sheet(0, 0, 3);
        x.film(0, 0, 21);
        x.film(0, 6, 1);
        x.film(0, 0, -1);
        Due.is("what is refused leaves it", Due.sizeOf(x, 0), 3);
    }

    // "n (0 .. 20; ints): n"
    private static void filmOfNoneAndOfTwenty() {
        SagaDesk x = begun(UP_AND_DOWN);
        Due.is("none", x.film(0, 0, 0), 0);
        Due.is("a sheet of none", Due.sizeOf(x, 0), 0);
        Due.is("twenty", x.film(0, 0, 20), 20);
        Due.is("a sheet of twenty", Due.sizeOf(x, 0), 20);
        Due.is("it tells", x.tells(0, 0, 0, 0), NONE);
        for (int i = 0; i < 20; i++) {
            x.sheet(1, 1, 1);
            x.copy(0, i, 1, 0, 1);
            x.set(1, i < 11 ? 101 + i : 111 - Math.max(0, i - 11));
            Due.is("item " + i, x.tells(1, 1, 0, 0), NONE);
        }
        Due.is("nothing truly came", x.told(0, 2), 0);
        Due.is("one", x.film(0, 0, 1), 1);
        Due.is("what was there is gone", Due.sizeOf(x, 0), 1);
    }

    // "A SHEET truly becomes the BALANCE"
    private static void filmIsOfInts() {
        SagaDesk x = new SagaDesk();
        x.set(0, 9999);
        x.sheet(0, 0, 40);
        Due.is("over a row of bytes", x.film(0, 0, 2), 2);
        Due.is("it tells 9999", x.tells(0, 0, 0, 0), NONE);
        x.sheet(1, 1, 2);
        Due.is("of ints", x.copy(0, 0, 1, 0, 2), 2);
        x.sheet(1, 0, 2);
        Due.is("not of bytes", x.copy(0, 0, 1, 0, 2), -13);
        Due.is("over a missing one", x.film(2, 0, 2), 2);
        Due.is("it is there", Due.sizeOf(x, 2), 2);
    }

    // ---- promise 23: count

    private static void countIsRefused() {
        SagaDesk x = new SagaDesk();
        for (int what = -20; what <= 40; what++) {
            boolean isAsked = what >= 0 && what <= 5 || what >= 10 && what <= 15;
            Due.is("count(" + what + ") is BAD", x.count(what) == BAD ? 1 : 0, isAsked ? 0 : 1);
        }
        Due.is("the most", x.count(Integer.MAX_VALUE), BAD);
        Due.is("the least", x.count(Integer.MIN_VALUE), BAD);
    }

    private static void countAtItsEdges() {
        SagaDesk x = Due.desk("mark", "take f 999", "!;take f 999", "mark;hold b 99", "mark", "mark");
        Due.is("all texts", x.count(0), 6);
        for (int i = 0; i < 24; i++) {
            x.feed(5, 1, 1, 1, 1, 1);
        }
        Due.is("all of the tape", x.count(1), 120);
        Due.is("none is active", x.count(3), 0);
        x.begin(0, 0);
        x.begin(1, 1);
        x.begin(2, 2);
        Due.is("all are RUNNING", x.count(3), 3);
        x.tick();
        Due.is("one is DONE, one BACK, one RUNNING", x.count(3), 2);
        x.tick();
        Due.is("one is UNDONE", x.count(3), 1);
        x.tick();
        Due.is("one is STUCK", x.count(3), 0);
        x.begin(0, 3);
        Due.ticks(x, 2);
        Due.is("held", x.count(4), 99);
        Due.is("marks", x.count(5), 2);
        x.set(0, 9999);
        x.set(5, 0);
        Due.is("a", x.count(10), 9999);
        Due.is("f", x.count(15), 0);
        int lines = x.count(2);
        for (int i = lines; i < 240; i++) {
            x.set(0, 0);
        }
        Due.is("all lines", x.count(2), 240);
        x.set(0, 1);
        Due.is("no more", x.count(2), 240);
    }

    private static void refusalsChangeNothing() {
        Supplier<SagaDesk> maker = () -> {
            SagaDesk desk = Due.desk("mark;add a 1");
            desk.begin(0, 0);
            desk.sheet(0, 1, 21);
            desk.sheet(1, 0, 4);
            return desk;
        };
        Due.refused("told, BAD", BAD, maker, x -> x.tells(0, 0, 0, 0), x -> x.tells(1, 0, 0, 100),
            x -> x.tells(1, 0, 0, 102), x -> x.tells(4, 0, 0, 0), x -> x.film(1, 0, 21), x -> x.film(4, 0, 1),
            x -> x.film(1, 6, 1), x -> x.count(6));
        Due.refused("told, STATE", STATE, maker, x -> x.tells(1, 0, 1, 100));
        Due.refused("told, -11", MISSING, maker, x -> x.tells(2, 0, 0, 101));
        Due.refused("tells, which is answered", 0, maker, x -> x.tells(1, 0, 0, 0), x -> x.tells(1, 0, 0, 1),
            x -> x.tells(1, 0, 0, 101));
    }
}
