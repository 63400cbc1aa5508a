/** The edges of "Terms": how many of each there are, and when a STEP just FAILS, or just doesn't. */
final class EdgesOfStepsTest {
    private static final int LOW = 2, HIGH = 3, DONE_LINE = 1, FAILED_LINE = 2, UNDONE_LINE = 3, PARKED_LINE = 4;

    public static void main(String[] args) {
        accountsAreSix();
        balancesEndAtZeroAnd9999();
        numbersEndAtZeroAnd999();
        addFailsAbove9999();
        takeFailsBelowZero();
        holdFailsBelowZero();
        moveFailsAtEitherEnd();
        moveLooksAtTheFirstFirst();
        moveOfOneAccountTwiceLooksAtBoth();
        swapAndMarkNeverFail();
        undoingAnAddFailsBelowZero();
        undoingATakeFailsAbove9999();
        undoingAHoldFailsAbove9999();
        undoingAMoveFailsAtEitherEnd();
        undoingAMoveLooksAtTheFirstFirst();
        undoingAMoveOfOneAccountTwiceLooksAtBoth();
        undoingASwapAndAMarkNeverFails();
        Due.end();
    }

    // "ACCOUNTS 0 .. 5 (in texts a .. f)"
    private static void accountsAreSix() {
        Due.edges("set of an account", 0, 5, -2, a -> new SagaDesk().set(a, 1));
        SagaDesk x = Due.desk("add a 1;add f 2");
        x.begin(0, 0);
        Due.ticks(x, 2);
        Due.is("a is 0", x.count(10), 101);
        Due.is("f is 5", x.count(15), 102);
        Due.is("g is none", Due.read(x, "add g 1"), -104);
        Due.is("nor is the byte ahead of a", Due.read(x, "add ` 1"), -104);
        Due.is("nor is A", Due.read(x, "add A 1"), -104);
        Due.is("nor are two letters", Due.read(x, "add aa 1"), -104);
    }

    // "a BALANCE (0 .. 9999; 100 at first)"
    private static void balancesEndAtZeroAnd9999() {
        Due.edges("set to a balance", 0, 9999, -2, v -> new SagaDesk().set(0, v));
        SagaDesk x = new SagaDesk();
        Due.is("100 at first", x.set(0, 0), 100);
        Due.is("the least", x.set(0, 9999), 0);
        Due.is("the most", x.set(0, 1), 9999);
    }

    // "a NUMBER (0 .. 999; a SWAP, a MARK none)"
    private static void numbersEndAtZeroAnd999() {
        SagaDesk x = Due.desk("add a 0;add b 999;swap a b;mark");
        Due.is("the least", x.step(0, 0, 3), 0);
        Due.is("the most", x.step(0, 1, 3), 999);
        Due.is("a SWAP none", x.step(0, 2, 3), -1);
        Due.is("a MARK none", x.step(0, 3, 3), -1);
        x.begin(0, 0);
        Due.ticks(x, 2);
        Due.is("0 more", x.count(10), 100);
        Due.is("999 more", x.count(11), 1099);
        Due.is("1000 is none", Due.read(x, "add a 1000"), -106);
        Due.is("a SWAP takes none", Due.read(x, "swap a b 0"), -109);
        Due.is("a MARK takes none", Due.read(x, "mark 0"), -105);
        Due.is("an ADD needs one", Due.read(x, "add a"), -105);
        Due.is("a HOLD needs one", Due.read(x, "hold a;mark"), -106);
    }

    /** Does the first step by these balances: due is its reason, and what a, b and HELD are then. */
    private static void doing(String step, int a, int b, int reason, int newA, int newB, int held) {
        SagaDesk x = Due.desk(step);
        x.set(0, a);
        x.set(1, b);
        x.begin(0, 0);
        x.tick();
        String what = step + " by " + a + ", " + b;
        Due.is(what + ": its line", x.line(3, 0), reason == 0 ? DONE_LINE : FAILED_LINE);
        Due.is(what + ": why", x.why(0, 0), reason);
        Due.is(what + ": a", x.count(10), newA);
        Due.is(what + ": b", x.count(11), newB);
        Due.is(what + ": held", x.count(4), held);
        Due.is(what + ": marks", x.count(5), step.equals("mark") ? 1 : 0);
        for (int account = 2; account < 6; account++) {
            Due.is(what + ": another balance", x.count(10 + account), 100);
        }
    }

    // "ADD: its ACCOUNT has NUMBER more", "It FAILS (and changes nothing), if a BALANCE would be .. above 9999"
    private static void addFailsAbove9999() {
        doing("add a 999", 9000, 7, 0, 9999, 7, 0);
        doing("add a 999", 9001, 7, HIGH, 9001, 7, 0);
        doing("add a 1", 9999, 7, HIGH, 9999, 7, 0);
        doing("add a 0", 9999, 7, 0, 9999, 7, 0);
        doing("add a 1", 0, 7, 0, 1, 7, 0);
    }

    // "TAKE: NUMBER less", "below 0 (LOW)"
    private static void takeFailsBelowZero() {
        doing("take a 999", 999, 7, 0, 0, 7, 0);
        doing("take a 999", 998, 7, LOW, 998, 7, 0);
        doing("take a 1", 0, 7, LOW, 0, 7, 0);
        doing("take a 0", 0, 7, 0, 0, 7, 0);
        doing("take a 1", 9999, 7, 0, 9998, 7, 0);
    }

    // "HOLD: as a TAKE, and HELD is NUMBER more"
    private static void holdFailsBelowZero() {
        doing("hold a 999", 999, 7, 0, 0, 7, 999);
        doing("hold a 999", 998, 7, LOW, 998, 7, 0);
        doing("hold a 1", 0, 7, LOW, 0, 7, 0);
        doing("hold a 0", 0, 7, 0, 0, 7, 0);
    }

    // "MOVE: the first has NUMBER less, the second NUMBER more", "(and changes nothing)"
    private static void moveFailsAtEitherEnd() {
        doing("move a b 999", 999, 9000, 0, 0, 9999, 0);
        doing("move a b 999", 998, 9000, LOW, 998, 9000, 0);
        doing("move a b 999", 999, 9001, HIGH, 999, 9001, 0);
        doing("move b a 999", 9000, 999, 0, 9999, 0, 0);
        doing("move b a 999", 9001, 999, HIGH, 9001, 999, 0);
        doing("move a b 0", 0, 9999, 0, 0, 9999, 0);
    }

    // "of a MOVE the first ACCOUNT's is looked at first"
    private static void moveLooksAtTheFirstFirst() {
        doing("move a b 999", 998, 9001, LOW, 998, 9001, 0);
        doing("move b a 999", 9001, 998, LOW, 9001, 998, 0);
    }

    // "of one and the same ACCOUNT twice a MOVE looks at both, as if they were two, and changes nothing"
    private static void moveOfOneAccountTwiceLooksAtBoth() {
        doing("move a a 999", 999, 7, 0, 999, 7, 0);
        doing("move a a 999", 998, 7, LOW, 998, 7, 0);
        doing("move a a 999", 9000, 7, 0, 9000, 7, 0);
        doing("move a a 999", 9001, 7, HIGH, 9001, 7, 0);
    }

    // "SWAP: the two BALANCES change places", "MARK: MARKS is 1 more"
    private static void swapAndMarkNeverFail() {
        doing("swap a b", 0, 9999, 0, 9999, 0, 0);
        doing("swap a b", 9999, 0, 0, 0, 9999, 0);
        doing("swap b a", 0, 9999, 0, 9999, 0, 0);
        doing("swap a a", 9999, 0, 0, 9999, 0, 0);
        doing("mark", 0, 9999, 0, 0, 9999, 0);
    }

    /** Does a step, sends its saga back, and undoes it by these balances. */
    private static void undoing(String step, int a, int b, int reason, int newA, int newB) {
        SagaDesk x = Due.desk(step + ";take f 101");
        x.set(0, 5000);
        x.set(1, 5000);
        x.begin(0, 0);
        Due.ticks(x, 2);
        int held = x.count(4);
        int marks = x.count(5);
        x.set(0, a);
        x.set(1, b);
        int line = x.count(2);
        Due.is("two lines", x.tick(), 2);
        String what = "undoing " + step + " by " + a + ", " + b;
        Due.is(what + ": its line", x.line(line, 0), reason == 0 ? UNDONE_LINE : PARKED_LINE);
        Due.is(what + ": UNDONE", x.told(0, 3), reason == 0 ? 1 : 0);
        Due.is(what + ": PARKED", x.told(0, 4), reason == 0 ? 0 : 1);
        Due.is(what + ": none is DONE", x.told(0, 2), 0);
        Due.is(what + ": why", x.why(0, 0), reason);
        Due.is(what + ": a", x.count(10), newA);
        Due.is(what + ": b", x.count(11), newB);
        Due.is(what + ": held", x.count(4), reason == 0 ? 0 : held);
        Due.is(what + ": marks", x.count(5), marks);
        Due.is(what + ": the saga is UNDONE either way", x.told(0, 0), 4);
    }

    // "UNDOING: ADD, TAKE, MOVE: NUMBER goes the other way"
    private static void undoingAnAddFailsBelowZero() {
        undoing("add a 999", 999, 7, 0, 0, 7);
        undoing("add a 999", 998, 7, LOW, 998, 7);
        undoing("add a 999", 9999, 7, 0, 9000, 7);
        undoing("add a 0", 0, 7, 0, 0, 7);
    }

    private static void undoingATakeFailsAbove9999() {
        undoing("take a 999", 9000, 7, 0, 9999, 7);
        undoing("take a 999", 9001, 7, HIGH, 9001, 7);
        undoing("take a 999", 0, 7, 0, 999, 7);
        undoing("take a 0", 9999, 7, 0, 9999, 7);
    }

    // "HOLD: as a TAKE's, and HELD is NUMBER less"
    private static void undoingAHoldFailsAbove9999() {
        undoing("hold a 999", 9000, 7, 0, 9999, 7);
        undoing("hold a 999", 9001, 7, HIGH, 9001, 7);
        undoing("hold a 0", 9999, 7, 0, 9999, 7);
    }

    private static void undoingAMoveFailsAtEitherEnd() {
        undoing("move a b 999", 9000, 999, 0, 9999, 0);
        undoing("move a b 999", 9001, 999, HIGH, 9001, 999);
        undoing("move a b 999", 9000, 998, LOW, 9000, 998);
        undoing("move b a 999", 999, 9000, 0, 0, 9999);
    }

    private static void undoingAMoveLooksAtTheFirstFirst() {
        undoing("move a b 999", 9001, 998, HIGH, 9001, 998);
        undoing("move b a 999", 998, 9001, HIGH, 998, 9001);
    }

    private static void undoingAMoveOfOneAccountTwiceLooksAtBoth() {
        undoing("move a a 999", 9000, 7, 0, 9000, 7);
        undoing("move a a 999", 9001, 7, HIGH, 9001, 7);
        undoing("move a a 999", 999, 7, 0, 999, 7);
        undoing("move a a 999", 998, 7, LOW, 998, 7);
    }

    // "SWAP: as DOING; MARK: nothing"
    private static void undoingASwapAndAMarkNeverFails() {
        undoing("swap a b", 0, 9999, 0, 9999, 0);
        undoing("swap b a", 0, 9999, 0, 9999, 0);
        undoing("swap b b", 0, 9999, 0, 0, 9999);
        undoing("mark", 0, 9999, 0, 0, 9999);
        SagaDesk x = Due.desk("mark;take f 101");
        x.begin(0, 0);
        Due.ticks(x, 3);
        Due.is("it is UNDONE", x.told(0, 3), 1);
        Due.is("MARKS stays", x.count(5), 1);
    }
}
