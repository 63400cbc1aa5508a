/** Promises 8 to 13: begin, plan, tick, told, why, set. */
final class SagasTest {
    private static final int BAD = SagaDesk.BAD, STATE = SagaDesk.STATE, FULL = SagaDesk.FULL, NONE = SagaDesk.NONE;

    public static void main(String[] args) {
        beginning();
        planning();
        doing();
        failing();
        moving();
        goingBack();
        parking();
        trying();
        sagasByNumbers();
        telling();
        reasons();
        setting();
        fullLog();
        Due.end();
    }

    private static void beginning() {
        SagaDesk x = Due.desk("mark;take a 500", "!;mark", "mark;!;take a 500");
        Due.is("begin(-1, 0)", x.begin(-1, 0), BAD);
        Due.is("begin(3, 0)", x.begin(3, 0), BAD);
        Due.is("begin(0, -1)", x.begin(0, -1), BAD);
        Due.is("begin(0, 3)", x.begin(0, 3), BAD);
        Due.is("begin(0, 0)", x.begin(0, 0), 2);
        Due.is("it is RUNNING", x.begin(0, 1), STATE);
        Due.is("BAD ahead of STATE", x.begin(0, 3), BAD);
        Due.line(x, 0, 0, 0, 0);
        Due.ticks(x, 2);
        Due.is("told(0, 0)", x.told(0, 0), 2);
        Due.is("it is BACK", x.begin(0, 1), STATE);
        Due.ticks(x, 1);
        Due.is("told(0, 0)", x.told(0, 0), 4);
        x.plan(0, 0, 0, 3);
        Due.is("behind UNDONE", x.begin(0, 1), 1);
        Due.is("without plans", x.plan(0, 0, 0, 0), 0);
        Due.is("all to come", x.told(0, 3), 0);
        Due.is("of its text", x.told(0, 1), 1);
        Due.ticks(x, 1);
        Due.is("told(0, 0)", x.told(0, 0), 3);
        Due.is("behind DONE", x.begin(0, 2), 2);
        Due.ticks(x, 4);
        Due.is("told(0, 0)", x.told(0, 0), 5);
        Due.is("behind STUCK", x.begin(0, 2), 2);
        Due.is("nothing is DONE", x.told(0, 2), 0);
        Due.ticks(x, 2);
        Due.is("tries are counted anew", x.told(0, 0), 1);
    }

    private static void planning() {
        SagaDesk x = Due.desk("mark;mark", "!;mark;mark");
        Due.is("plan(3, ..)", x.plan(3, 0, 0, 1), BAD);
        Due.is("plan(-1, ..)", x.plan(-1, 0, 0, 1), BAD);
        Due.is("of an idle one, step 11", x.plan(0, 11, 0, 1), STATE);
        Due.is("of an idle one, step 12", x.plan(0, 12, 0, 1), BAD);
        Due.is("of an idle one, step -1", x.plan(0, -1, 0, 1), BAD);
        Due.is("of an idle one, of 2", x.plan(0, 0, 2, 1), BAD);
        Due.is("of an idle one, n 10", x.plan(0, 0, 0, 10), BAD);
        x.begin(0, 0);
        Due.is("step 2 of two", x.plan(0, 2, 0, 1), BAD);
        Due.is("of -1", x.plan(0, 0, -1, 1), BAD);
        Due.is("n -1", x.plan(0, 0, 0, -1), BAD);
        Due.is("n 9", x.plan(0, 1, 0, 9), 0);
        Due.is("what it was", x.plan(0, 1, 0, 1), 9);
        Due.is("of undoing, apart", x.plan(0, 1, 1, 4), 0);
        Due.is("of undoing", x.plan(0, 1, 1, 0), 4);
        x.plan(0, 0, 1, 1);
        Due.ticks(x, 2);
        Due.is("it went back", x.told(0, 0), 2);
        Due.is("the plan is spent", x.plan(0, 1, 0, 0), 0);
        Due.ticks(x, 1);
        Due.is("parked", x.told(0, 4), 1);
        Due.is("the plan of undoing is spent", x.plan(0, 0, 1, 0), 0);
        x.begin(1, 1);
        x.plan(1, 0, 0, 5);
        Due.ticks(x, 2);
        Due.is("two of five are spent", x.plan(1, 0, 0, 0), 3);
        Due.ticks(x, 2);
        Due.is("none is left to fail", x.told(1, 0), 3);
        Due.is("also of one that is DONE", x.plan(1, 0, 1, 2), 0);
    }

    private static void doing() {
        SagaDesk x = Due.desk("add a 5;take b 7;move c d 9;hold e 11;swap a f;mark");
        x.begin(2, 0);
        int[][] due = {
            {105, 100, 100, 100, 100, 100, 0, 0},
            {105, 93, 100, 100, 100, 100, 0, 0},
            {105, 93, 91, 109, 100, 100, 0, 0},
            {105, 93, 91, 109, 89, 100, 11, 0},
            {100, 93, 91, 109, 89, 105, 11, 0},
            {100, 93, 91, 109, 89, 105, 11, 1}};
        for (int i = 0; i < 6; i++) {
            Due.is("front", x.told(2, 5), 1 << i);
            Due.is("lines", x.tick(), i == 5 ? 2 : 1);
            for (int a = 0; a < 6; a++) {
                Due.is("balance " + a + " behind " + i, x.count(10 + a), due[i][a]);
            }
            Due.is("held behind " + i, x.count(4), due[i][6]);
            Due.is("marks behind " + i, x.count(5), due[i][7]);
        }
        Due.is("DONE", x.told(2, 0), 3);
        Due.is("a tick of nobody", x.tick(), 0);
    }

    /** The reason why the first step of a text fails, or 0. */
    private static int fails(String text, int a, int b) {
        SagaDesk x = Due.desk(text);
        x.set(0, a);
        x.set(1, b);
        x.begin(0, 0);
        x.tick();
        boolean failed = x.line(3, 0) == 2;
        Due.holds("a failed step of " + text + " changes nothing",
            !failed || x.count(10) == a && x.count(11) == b && x.count(4) == 0);
        Due.is("why, if it failed: " + text, x.why(0, 0) == 0 ? 0 : 1, failed ? 1 : 0);
        return x.why(0, 0);
    }

    private static void failing() {
        Due.is("add to 9999", fails("add a 999", 9000, 0), 0);
        Due.is("add to 10000", fails("add a 999", 9001, 0), 3);
        Due.is("take to 0", fails("take a 999", 999, 0), 0);
        Due.is("take below 0", fails("take a 999", 998, 0), 2);
        Due.is("hold to 0", fails("hold a 7", 7, 0), 0);
        Due.is("hold below 0", fails("hold a 8", 7, 0), 2);
        Due.is("move", fails("move a b 7", 7, 9992), 0);
        Due.is("move: the first is low", fails("move a b 8", 7, 0), 2);
        Due.is("move: the second is high", fails("move a b 7", 7, 9993), 3);
        Due.is("move: the first is looked at first", fails("move a b 8", 7, 9999), 2);
        Due.is("swap", fails("swap a b", 0, 9999), 0);
        Due.is("mark", fails("mark", 0, 9999), 0);
    }

    private static void moving() {
        Due.is("move to itself: low", fails("move a a 8", 7, 0), 2);
        Due.is("move to itself: high", fails("move a a 8", 9992, 0), 3);
        Due.is("move to itself", fails("move a a 8", 9991, 0), 0);
        SagaDesk x = Due.desk("move a a 8;swap b b");
        x.begin(0, 0);
        Due.ticks(x, 2);
        Due.is("it changes nothing", x.count(10), 100);
        Due.is("nor does a swap", x.count(11), 100);
        Due.is("DONE", x.told(0, 0), 3);
    }

    private static void goingBack() {
        SagaDesk x = Due.desk("add a 5;take b 7;move c d 9;hold e 11;swap a f;mark;{mark|take a 999|mark}");
        x.begin(0, 0);
        Due.ticks(x, 6);
        Due.is("a failure stops the siblings", x.tick(), 2);
        Due.line(x, 7, 1, 0, 6);
        Due.line(x, 8, 2, 0, 7);
        Due.is("BACK", x.told(0, 0), 2);
        Due.is("no front any more", x.told(0, 5), 0);
        int[] order = {6, 5, 4, 3, 2, 1, 0};
        for (int i = 0; i < order.length; i++) {
            Due.is("the last that is DONE", x.told(0, 7), order[i]);
            Due.is("lines of a step back", x.tick(), i == 6 ? 2 : 1);
            Due.line(x, 9 + i, 3, 0, order[i]);
        }
        Due.line(x, 16, 5, 0, 4);
        Due.is("UNDONE", x.told(0, 0), 4);
        Due.is("none is DONE", x.told(0, 2), 0);
        Due.is("they are UNDONE", x.told(0, 3), 127);
        Due.is("none was last", x.told(0, 7), NONE);
        for (int a = 0; a < 6; a++) {
            Due.is("balance " + a, x.count(10 + a), 100);
        }
        Due.is("held", x.count(4), 0);
        Due.is("a mark is not undone", x.count(5), 2);
        // The last DONE is undone first, also where branches mixed the numbers.
        SagaDesk y = Due.desk("{mark;mark|mark};take a 101");
        y.begin(0, 0);
        Due.ticks(y, 3);
        Due.is("first 1", y.told(0, 7), 1);
        Due.ticks(y, 1);
        Due.is("then 2", y.told(0, 7), 2);
        Due.ticks(y, 1);
        Due.is("then 0", y.told(0, 7), 0);
        // Nothing is DONE: the way back takes a tick of its own.
        SagaDesk z = Due.desk("take a 101");
        z.begin(0, 0);
        Due.is("it fails", z.tick(), 1);
        Due.is("BACK", z.told(0, 0), 2);
        Due.is("it ends", z.tick(), 1);
        Due.is("UNDONE", z.told(0, 0), 4);
    }

    private static void parking() {
        SagaDesk x = Due.desk("add a 5;take b 7;move c d 9;hold e 11;mark;take f 999");
        x.begin(0, 0);
        Due.ticks(x, 6);
        x.set(0, 4);
        x.set(1, 9993);
        x.set(2, 9991);
        x.set(3, 8);
        x.set(4, 9989);
        Due.ticks(x, 5);
        Due.is("UNDONE", x.told(0, 0), 4);
        Due.is("the mark is UNDONE", x.told(0, 3), 16);
        Due.is("the others are PARKED", x.told(0, 4), 15);
        Due.is("add: low", x.why(0, 0), 2);
        Due.is("take: high", x.why(0, 1), 3);
        Due.is("move: the first is looked at first: high", x.why(0, 2), 3);
        Due.is("hold: high", x.why(0, 3), 3);
        Due.is("they change nothing", x.count(10), 4);
        Due.is("they change nothing", x.count(13), 8);
        Due.is("held stays", x.count(4), 11);
        SagaDesk y = Due.desk("move c d 9;take f 999");
        y.begin(0, 0);
        Due.ticks(y, 2);
        y.set(3, 8);
        y.plan(0, 0, 1, 1);
        Due.ticks(y, 1);
        Due.is("planned ahead of all else", y.why(0, 0), 1);
        y.begin(0, 0);
        Due.ticks(y, 2);
        y.set(3, 8);
        Due.ticks(y, 1);
        Due.is("the second is low", y.why(0, 0), 2);
        Due.is("PARKED", y.told(0, 4), 1);
    }

    private static void trying() {
        SagaDesk x = Due.desk("mark;!;{take a 500|add b 1|hold c 101};mark");
        x.begin(0, 0);
        Due.is("not passed", x.told(0, 6), 0);
        x.tick();
        Due.is("passed", x.told(0, 6), 1);
        Due.is("all of the front", x.told(0, 5), 14);
        Due.is("it goes on behind a failure", x.tick(), 3);
        Due.is("RUNNING", x.told(0, 0), 1);
        Due.is("the second is DONE", x.told(0, 2), 5);
        Due.is("they are tried again", x.tick(), 2);
        x.set(2, 101);
        Due.is("the third failure is the end", x.tick(), 2);
        Due.is("STUCK", x.told(0, 0), 5);
        Due.is("it tries no more", x.told(0, 2), 5);
        Due.is("no front", x.told(0, 5), 0);
        Due.is("nothing comes any more", x.tick(), 0);
        int last = x.count(2) - 1;
        Due.line(x, last - 1, 2, 0, 1);
        Due.line(x, last, 5, 0, 5);
        // Two failures and then none.
        x.set(0, 100);
        x.set(2, 101);
        x.begin(0, 0);
        Due.ticks(x, 3);
        x.set(0, 500);
        Due.ticks(x, 2);
        Due.is("DONE", x.told(0, 0), 3);
        // Ahead of the pivot there is no second try, even as the last of many branches.
        SagaDesk y = Due.desk("{mark|mark|take a 101};!;mark", "mark;!", "take a 101;!;mark");
        y.begin(0, 0);
        y.tick();
        Due.is("BACK", y.told(0, 0), 2);
        y.begin(1, 1);
        y.tick();
        Due.is("a pivot at the end", y.told(1, 0), 3);
        Due.is("is passed", y.told(1, 6), 1);
        y.begin(2, 2);
        y.tick();
        Due.is("BACK", y.told(2, 0), 2);
    }

    private static void sagasByNumbers() {
        SagaDesk x = Due.desk("take a 60", "add a 60;mark");
        x.begin(2, 1);
        x.begin(1, 0);
        x.begin(0, 0);
        Due.is("lines", x.tick(), 4);
        Due.line(x, 3, 1, 0, 0);
        Due.line(x, 4, 5, 0, 3);
        Due.line(x, 5, 2, 1, 0);
        Due.line(x, 6, 1, 2, 0);
        Due.is("active", x.count(3), 2);
        Due.is("lines", x.tick(), 3);
        Due.line(x, 7, 5, 1, 4);
        Due.line(x, 8, 1, 2, 1);
        Due.line(x, 9, 5, 2, 3);
        Due.is("none is active", x.count(3), 0);
    }

    private static void telling() {
        SagaDesk x = Due.desk("mark", "mark;mark");
        x.begin(0, 1);
        Due.is("told(3, 0)", x.told(3, 0), BAD);
        Due.is("told(-1, 0)", x.told(-1, 0), BAD);
        Due.is("told(0, 8)", x.told(0, 8), BAD);
        Due.is("told(0, -1)", x.told(0, -1), BAD);
        Due.is("RUNNING", x.told(0, 0), 1);
        Due.is("text", x.told(0, 1), 1);
        Due.is("front", x.told(0, 5), 1);
        Due.is("no pivot is never passed", x.told(0, 6), 0);
        Due.is("none yet", x.told(0, 7), NONE);
        Due.ticks(x, 2);
        Due.is("DONE", x.told(0, 0), 3);
        Due.is("steps", x.told(0, 2), 3);
        Due.is("no pivot is never passed", x.told(0, 6), 0);
        Due.is("the last", x.told(0, 7), 1);
        Due.is("others are IDLE", x.told(1, 0), 0);
    }

    private static void reasons() {
        SagaDesk x = Due.desk("!;take a 200;add b 9");
        Due.is("why(3, 0)", x.why(3, 0), BAD);
        Due.is("why(-1, 0)", x.why(-1, 0), BAD);
        Due.is("why(0, 11)", x.why(0, 11), STATE);
        Due.is("why(0, 12)", x.why(0, 12), BAD);
        Due.is("why(0, -1)", x.why(0, -1), BAD);
        x.begin(0, 0);
        Due.is("why(0, 2)", x.why(0, 2), BAD);
        Due.is("none failed", x.why(0, 0), 0);
        x.plan(0, 0, 0, 1);
        x.tick();
        Due.is("PLANNED ahead of LOW", x.why(0, 0), 1);
        x.tick();
        Due.is("the last one counts", x.why(0, 0), 2);
        x.set(0, 200);
        x.tick();
        Due.is("one that is DONE failed ahead", x.why(0, 0), 2);
        x.set(1, 9999);
        x.tick();
        Due.is("HIGH", x.why(0, 1), 3);
        x.breaks(x.count(2));
        Due.is("the log broke", x.why(0, 1), 0);
        x.tick();
        Due.is("one failed since", x.why(0, 1), 3);
        x.tick();
        Due.is("STUCK", x.told(0, 0), 5);
        Due.is("it stays", x.why(0, 1), 3);
        x.begin(0, 0);
        Due.is("begun anew", x.why(0, 1), 0);
    }

    private static void setting() {
        SagaDesk x = new SagaDesk();
        Due.is("set(-1, 0)", x.set(-1, 0), BAD);
        Due.is("set(6, 0)", x.set(6, 0), BAD);
        Due.is("set(0, -1)", x.set(0, -1), BAD);
        Due.is("set(0, 10000)", x.set(0, 10000), BAD);
        Due.is("no line", x.count(2), 0);
        Due.is("set(5, 9999)", x.set(5, 9999), 100);
        Due.is("set(5, 0)", x.set(5, 0), 9999);
        Due.is("balance", x.count(15), 0);
        Due.line(x, 0, 6, 5, 9999);
        Due.line(x, 1, 6, 5, 0);
    }

    private static void fullLog() {
        SagaDesk x = Due.desk("mark");
        for (int i = 0; i < 189; i++) {
            x.set(0, i);
        }
        x.begin(0, 0);
        Due.is("a tick at 190", x.tick(), 2);
        Due.is("lines", x.count(2), 192);
        Due.is("a tick beyond", x.tick(), FULL);
        x.begin(0, 0);
        Due.is("it changes nothing", x.tick(), FULL);
        Due.is("RUNNING", x.told(0, 0), 1);
        Due.is("in thought it goes on", x.run(1, 10), 3);
        for (int i = 193; i < 240; i++) {
            Due.is("set", x.set(1, i), i == 193 ? 100 : i - 1);
        }
        Due.is("lines", x.count(2), 240);
        Due.is("set at 240", x.set(1, 0), FULL);
        Due.is("BAD ahead of FULL", x.set(6, 0), BAD);
        Due.is("begin at 240", x.begin(1, 0), FULL);
        Due.is("STATE ahead of FULL", x.begin(0, 0), STATE);
        Due.is("BAD ahead of all", x.begin(0, 1), BAD);
        Due.is("balance", x.count(11), 239);
        Due.is("breaks", x.breaks(190), 50);
        Due.is("ticks again", x.tick(), 2);
    }
}
