import java.util.function.Supplier;

/** The edges of promises 1 and 8 to 13: a new object, begin, plan, tick, told, why, set. */
final class EdgesOfSagasTest {
    private static final int BAD = SagaDesk.BAD, STATE = SagaDesk.STATE, FULL = SagaDesk.FULL, NONE = SagaDesk.NONE;
    private static final int IDLE = 0, RUNNING = 1, BACK = 2, DONE = 3, UNDONE = 4, STUCK = 5;
    private static final String TWELVE = "mark;mark;mark;mark;mark;mark;mark;mark;mark;mark;mark;mark";

    public static void main(String[] args) {
        aNewObject();
        objectsKeepApart();
        beginIsRefused();
        beginIsBadAheadOfState();
        beginOfEachState();
        beginAnew();
        beginNeedsALine();
        planIsRefused();
        planOfAnIdleSaga();
        planIsWhatItWas();
        triesFailByPlan();
        undoingsFailByPlan();
        plansAreTheirSagasOwn();
        tickNeedsRoom();
        tickOfNobody();
        theThirdFailureIsTheEnd();
        failuresOfEachStepCountApart();
        aFailureStopsItsSiblings();
        behindThePivotSiblingsGoOn();
        theEndStopsItsSiblings();
        thePivotIsPassed();
        theFrontIsAsItsTurnComes();
        theLastStepEndsItsSaga();
        backWithNoneDone();
        backEndsWithTheLastUndoing();
        theLastDoneIsUndoneFirst();
        sagasByNumbers();
        toldIsRefused();
        toldAtItsEdges();
        whyIsRefused();
        whyAtItsEdges();
        setIsRefused();
        setNeedsALine();
        refusalsChangeNothing();
        Due.end();
    }

    // ---- promise 1

    // "All SAGAS are IDLE", "100 at first", "0 at first", "or missing (as all are at first)"
    private static void aNewObject() {
        SagaDesk x = new SagaDesk();
        for (int s = 0; s < 3; s++) {
            Due.is("saga " + s, x.told(s, 0), IDLE);
            Due.is("its text", x.told(s, 1), NONE);
        }
        int[] due = {0, 0, 0, 0, 0, 0};
        for (int what = 0; what < 6; what++) {
            Due.is("count(" + what + ")", x.count(what), due[what]);
            Due.is("balance " + what, x.count(10 + what), 100);
        }
        for (int sheet = 0; sheet < 4; sheet++) {
            Due.is("sheet " + sheet, x.cell(sheet, 0, 0), -11);
        }
        Due.is("no line", x.line(0, 0), -12);
        Due.is("no text", x.shape(0, 0), BAD);
    }

    private static void objectsKeepApart() {
        SagaDesk x = Due.desk("mark");
        SagaDesk y = new SagaDesk();
        x.begin(0, 0);
        x.set(0, 1);
        x.sheet(0, 0, 1);
        Due.is("its sagas", y.told(0, 0), IDLE);
        Due.is("its balances", y.count(10), 100);
        Due.is("its texts", y.count(0), 0);
        Due.is("its log", y.count(2), 0);
        Due.is("its sheets", y.cell(0, 0, 0), -11);
    }

    // ---- promise 8: begin

    private static void beginIsRefused() {
        Due.edges("begin of a saga", 0, 2, BAD, s -> Due.desk("mark").begin(s, 0));
        Due.edges("begin by a text", 0, 1, BAD, t -> Due.desk("mark", "mark").begin(0, t));
        Due.is("by none", new SagaDesk().begin(0, 0), BAD);
        SagaDesk x = Due.desk("mark", TWELVE);
        Due.is("one step", x.begin(0, 0), 1);
        Due.is("twelve steps", x.begin(2, 1), 12);
    }

    private static void beginIsBadAheadOfState() {
        SagaDesk x = Due.desk("mark;mark");
        x.begin(0, 0);
        Due.is("no such text", x.begin(0, 1), BAD);
        Due.is("no such text", x.begin(0, -1), BAD);
        Due.is("good, but RUNNING", x.begin(0, 0), STATE);
    }

    // "A SAGA that is IDLE, DONE, UNDONE or STUCK"
    private static void beginOfEachState() {
        String[] texts = {"mark;mark", "take a 101", "mark", "take a 101", "!;take a 101"};
        int[] ticks = {1, 1, 1, 2, 3};
        int[] states = {RUNNING, BACK, DONE, UNDONE, STUCK};
        for (int i = 0; i < texts.length; i++) {
            SagaDesk x = Due.desk(texts[i]);
            Due.is("IDLE", x.begin(1, 0), x.shape(0, 0));
            Due.is("at once", x.begin(1, 0), STATE);
            Due.ticks(x, ticks[i]);
            Due.is("state " + i, x.told(1, 0), states[i]);
            boolean isActive = states[i] == RUNNING || states[i] == BACK;
            Due.is("begin in " + states[i], x.begin(1, 0), isActive ? STATE : x.shape(0, 0));
            Due.is("then", x.told(1, 0), states[i] == BACK ? BACK : RUNNING);
        }
    }

    // "is RUNNING anew by a TEXT, all STEPS to come, without PLANS"
    private static void beginAnew() {
        SagaDesk x = Due.desk("mark;mark;take a 101", "!;take a 101;mark");
        x.begin(0, 0);
        x.plan(0, 0, 1, 1);
        Due.ticks(x, 5);
        Due.is("UNDONE", x.told(0, 0), UNDONE);
        x.plan(0, 0, 0, 9);
        x.plan(0, 1, 1, 9);
        Due.is("by another text", x.begin(0, 1), 2);
        int[] due = {RUNNING, 1, 0, 0, 0, 1, 1, NONE};
        for (int what = 0; what < 8; what++) {
            Due.is("told(0, " + what + ")", x.told(0, what), due[what]);
        }
        for (int step = 0; step < 2; step++) {
            Due.is("no plan of trying", x.plan(0, step, 0, 0), 0);
            Due.is("no plan of undoing", x.plan(0, step, 1, 0), 0);
            Due.is("no why", x.why(0, step), 0);
        }
        Due.ticks(x, 2);
        Due.is("two failures", x.told(0, 0), RUNNING);
        x.tick();
        Due.is("three", x.told(0, 0), STUCK);
        x.begin(0, 1);
        Due.ticks(x, 2);
        Due.is("they are counted anew", x.told(0, 0), RUNNING);
    }

    private static SagaDesk deskOfLines(int n, String... texts) {
        SagaDesk desk = Due.desk(texts);
        for (int i = 0; i < n; i++) {
            desk.set(5, 100);
        }
        return desk;
    }

    // "FULL: THE LOG has 240 LINES"
    private static void beginNeedsALine() {
        SagaDesk x = deskOfLines(239, "mark");
        Due.is("the last line", x.begin(0, 0), 1);
        Due.is("240", x.count(2), 240);
        Due.line(x, 239, 0, 0, 0);
        Due.is("no line more", x.begin(1, 0), FULL);
        Due.is("it is IDLE", x.told(1, 0), IDLE);
        Due.is("STATE ahead of FULL", x.begin(0, 0), STATE);
        Due.is("BAD ahead of FULL", x.begin(1, 1), BAD);
        Due.is("BAD ahead of FULL", x.begin(3, 0), BAD);
    }

    // ---- promise 9: plan

    private static SagaDesk begun(String text) {
        SagaDesk desk = Due.desk(text);
        desk.begin(0, 0);
        return desk;
    }

    private static void planIsRefused() {
        SagaDesk x = Due.desk("mark;mark;mark", TWELVE);
        x.begin(0, 0);
        x.begin(1, 1);
        x.begin(2, 0);
        Due.edges("plan, saga", 0, 2, BAD, s -> x.plan(s, 0, 0, 0));
        Due.edges("plan, step of three", 0, 2, BAD, i -> x.plan(0, i, 0, 0));
        Due.edges("plan, step of twelve", 0, 11, BAD, i -> x.plan(1, i, 1, 0));
        Due.edges("plan, of", 0, 1, BAD, of -> x.plan(0, 0, of, 0));
        Due.edges("plan, n", 0, 9, BAD, n -> x.plan(0, 0, 0, n));
        Due.edges("plan, n of undoings", 0, 9, BAD, n -> x.plan(0, 0, 1, n));
    }

    // "step (of one that is IDLE: not 0 .. 11)", "STATE: the SAGA is IDLE"
    private static void planOfAnIdleSaga() {
        SagaDesk x = begun("mark");
        Due.edges("plan of an idle one, step", 0, 11, BAD, i -> x.plan(1, i, 0, 0));
        Due.is("step 0", x.plan(1, 0, 0, 0), STATE);
        Due.is("step 11", x.plan(1, 11, 1, 9), STATE);
        Due.is("BAD of ahead of STATE", x.plan(1, 0, 2, 0), BAD);
        Due.is("BAD n ahead of STATE", x.plan(1, 0, 0, 10), BAD);
        Due.is("of one that has a step alone, step 11", x.plan(0, 11, 0, 0), BAD);
        x.breaks(0);
        Due.is("IDLE again", x.plan(0, 11, 0, 0), STATE);
    }

    private static void planIsWhatItWas() {
        SagaDesk x = begun("mark;mark");
        Due.is("none at first", x.plan(0, 0, 0, 9), 0);
        Due.is("nine", x.plan(0, 0, 0, 0), 9);
        Due.is("none", x.plan(0, 0, 0, 1), 0);
        Due.is("another step", x.plan(0, 1, 0, 2), 0);
        Due.is("undoings", x.plan(0, 0, 1, 3), 0);
        Due.is("one", x.plan(0, 0, 0, 0), 1);
        Due.is("two", x.plan(0, 1, 0, 0), 2);
        Due.is("three", x.plan(0, 0, 1, 0), 3);
        Due.ticks(x, 2);
        Due.is("also of one that is DONE", x.plan(0, 1, 0, 4), 0);
        Due.is("four", x.plan(0, 1, 0, 0), 4);
    }

    // "of a PLAN of n the next n TRIES fail, ahead of all else"
    private static void triesFailByPlan() {
        for (int n = 0; n <= 9; n++) {
            SagaDesk x = begun("!;mark");
            x.plan(0, 0, 0, n);
            int tries = Math.min(n, 3);
            for (int i = 1; i <= tries; i++) {
                Due.is("try " + i + " of " + n, x.tick(), i == 3 ? 2 : 1);
                Due.line(x, i, 2, 0, 0);
                Due.is("PLANNED", x.why(0, 0), 1);
                Due.is("what is left", x.plan(0, 0, 0, n - i), n - i);
            }
            x.tick();
            Due.is("with a plan of " + n, x.told(0, 0), n < 3 ? DONE : STUCK);
            Due.is("what is left", x.plan(0, 0, 0, 0), n - tries);
        }
        SagaDesk y = begun("!;take a 101");
        y.plan(0, 0, 0, 1);
        y.tick();
        Due.is("PLANNED ahead of LOW", y.why(0, 0), 1);
        y.tick();
        Due.is("then LOW", y.why(0, 0), 2);
        SagaDesk z = begun("mark");
        z.plan(0, 0, 0, 1);
        z.tick();
        Due.is("without a pivot it goes BACK", z.told(0, 0), BACK);
    }

    // "likewise UNDOINGS of a PLAN for these"
    private static void undoingsFailByPlan() {
        for (int n = 0; n <= 2; n++) {
            SagaDesk x = begun("add a 5;take b 101");
            x.plan(0, 0, 1, n);
            Due.ticks(x, 3);
            Due.is("UNDONE with a plan of " + n, x.told(0, 3), n == 0 ? 1 : 0);
            Due.is("PARKED with a plan of " + n, x.told(0, 4), n == 0 ? 0 : 1);
            Due.is("why", x.why(0, 0), n == 0 ? 0 : 1);
            Due.is("balance", x.count(10), n == 0 ? 100 : 105);
            Due.is("what is left", x.plan(0, 0, 1, 0), Math.max(0, n - 1));
        }
        SagaDesk y = begun("add a 5;take b 101");
        y.set(0, 100);
        Due.ticks(y, 2);
        y.set(0, 4);
        y.plan(0, 0, 1, 1);
        y.tick();
        Due.is("PLANNED ahead of LOW", y.why(0, 0), 1);
        SagaDesk z = begun("mark;mark");
        z.plan(0, 0, 1, 9);
        Due.ticks(z, 2);
        Due.is("it does not count for tries", z.told(0, 0), DONE);
        Due.is("nor is it spent by them", z.plan(0, 0, 1, 0), 9);
    }

    private static void plansAreTheirSagasOwn() {
        SagaDesk x = Due.desk("mark");
        x.begin(0, 0);
        x.begin(1, 0);
        x.plan(1, 0, 0, 1);
        x.tick();
        Due.is("the one", x.told(0, 0), DONE);
        Due.is("the other", x.told(1, 0), BACK);
    }

    // ---- promise 10: tick

    // "FULL: THE LOG has more than 190 LINES"
    private static void tickNeedsRoom() {
        SagaDesk x = deskOfLines(189, "mark;mark");
        x.begin(0, 0);
        Due.is("190 lines", x.count(2), 190);
        Due.is("a tick", x.tick(), 1);
        Due.is("191 lines", x.count(2), 191);
        Due.is("none more", x.tick(), FULL);
        Due.is("it is RUNNING still", x.told(0, 2), 1);
        Due.is("one line is lost", x.breaks(190), 1);
        Due.is("a tick again", x.tick(), 1);
        SagaDesk y = deskOfLines(190);
        Due.is("of nobody, by 190", y.tick(), 0);
        y.set(0, 0);
        Due.is("of nobody, by 191", y.tick(), FULL);
        // The most that one tick writes has room: three sagas of twelve steps, and their ends.
        SagaDesk z = deskOfLines(187,
            "{{{mark|mark|mark}|{mark|mark|mark}}|{{mark|mark|mark}|{mark|mark|mark}}}");
        for (int s = 0; s < 3; s++) {
            z.begin(s, 0);
        }
        Due.is("190 lines", z.count(2), 190);
        Due.is("39 lines of one tick", z.tick(), 39);
        Due.is("229 lines", z.count(2), 229);
        Due.line(z, 228, 5, 2, DONE);
    }

    // "Others do nothing."
    private static void tickOfNobody() {
        SagaDesk x = Due.desk("mark", "take a 101", "!;take a 101");
        Due.is("all IDLE", x.tick(), 0);
        for (int s = 0; s < 3; s++) {
            x.begin(s, s);
        }
        Due.ticks(x, 3);
        Due.is("DONE", x.told(0, 0), DONE);
        Due.is("UNDONE", x.told(1, 0), UNDONE);
        Due.is("STUCK", x.told(2, 0), STUCK);
        int lines = x.count(2);
        Due.is("none", x.tick(), 0);
        Due.is("no line", x.count(2), lines);
    }

    // "if this is the third, or a later, TRY of that STEP that FAILED"
    private static void theThirdFailureIsTheEnd() {
        SagaDesk x = begun("!;take a 101");
        Due.is("the first", x.tick(), 1);
        Due.is("RUNNING", x.told(0, 0), RUNNING);
        Due.is("the second", x.tick(), 1);
        Due.is("RUNNING", x.told(0, 0), RUNNING);
        Due.is("the third", x.tick(), 2);
        Due.is("STUCK", x.told(0, 0), STUCK);
        Due.line(x, 3, 2, 0, 0);
        Due.line(x, 4, 5, 0, STUCK);
        SagaDesk y = begun("!;take a 101");
        Due.ticks(y, 2);
        y.set(0, 101);
        Due.is("none by the third", y.tick(), 2);
        Due.is("DONE", y.told(0, 0), DONE);
        // By the log the third has come, but not its end: the next is a later one.
        x.breaks(4);
        Due.is("RUNNING", x.told(0, 0), RUNNING);
        Due.is("a fourth", x.tick(), 2);
        Due.is("STUCK", x.told(0, 0), STUCK);
    }

    private static void failuresOfEachStepCountApart() {
        SagaDesk x = begun("!;mark;mark;mark;mark");
        for (int step = 0; step < 4; step++) {
            x.plan(0, step, 0, 2);
        }
        Due.ticks(x, 12);
        Due.is("eight failures, two of each", x.told(0, 0), DONE);
        SagaDesk y = begun("!;{take a 101|take b 101|take c 101}");
        Due.is("three failures", y.tick(), 3);
        Due.is("one of each", y.told(0, 0), RUNNING);
        Due.is("three failures", y.tick(), 3);
        Due.is("two of each", y.told(0, 0), RUNNING);
        Due.is("the third of the first", y.tick(), 2);
        Due.is("STUCK", y.told(0, 0), STUCK);
    }

    // "else it goes BACK (and tries no more)"
    private static void aFailureStopsItsSiblings() {
        for (int step = 0; step < 3; step++) {
            SagaDesk x = begun("{mark|mark|mark};!;mark");
            x.plan(0, step, 0, 1);
            Due.is("lines", x.tick(), step + 1);
            Due.is("BACK", x.told(0, 0), BACK);
            Due.is("those ahead of it are DONE", x.told(0, 2), (1 << step) - 1);
            Due.is("the marks", x.count(5), step);
        }
    }

    // "if THE PIVOT is PASSED then, the SAGA goes on"
    private static void behindThePivotSiblingsGoOn() {
        for (int step = 1; step <= 3; step++) {
            SagaDesk x = begun("mark;!;{mark|mark|mark}");
            x.plan(0, step, 0, 1);
            x.tick();
            Due.is("all three are tried", x.tick(), 3);
            Due.is("RUNNING", x.told(0, 0), RUNNING);
            Due.is("all but that one", x.told(0, 2), 15 & ~(1 << step));
            Due.is("that one alone", x.told(0, 5), 1 << step);
            Due.is("it is tried again, and ends", x.tick(), 2);
            Due.is("DONE", x.told(0, 0), DONE);
        }
    }

    // "the SAGA is STUCK, and tries no more"
    private static void theEndStopsItsSiblings() {
        for (int step = 0; step < 3; step++) {
            SagaDesk x = begun("!;{take a 101|take b 101|take c 101}");
            for (int i = 0; i < 3; i++) {
                x.plan(0, i, 0, i == step ? 3 : 0);
                x.set(i, i == step ? 0 : 100);
            }
            // The third failure of one, while those behind it could be done at last.
            Due.ticks(x, 2);
            for (int i = 0; i < 3; i++) {
                x.set(i, 101);
            }
            Due.is("lines", x.tick(), step + 2);
            Due.is("STUCK", x.told(0, 0), STUCK);
            Due.is("those ahead of it are DONE", x.told(0, 2), (1 << step) - 1);
        }
    }

    // "THE PIVOT is PASSED, if all STEPS that stand ahead of it are DONE; without one it never is."
    private static void thePivotIsPassed() {
        SagaDesk x = Due.desk("!;mark;mark", "{mark|mark};!;mark", "mark;mark", "mark;!");
        x.begin(0, 0);
        Due.is("none stands ahead of it", x.told(0, 6), 1);
        x.begin(1, 1);
        x.plan(1, 1, 0, 1);
        Due.is("not yet", x.told(1, 6), 0);
        x.tick();
        Due.is("one of two", x.told(1, 2), 1);
        Due.is("isn't all", x.told(1, 6), 0);
        Due.is("so it goes BACK", x.told(1, 0), BACK);
        x.begin(2, 2);
        Due.ticks(x, 2);
        Due.is("DONE without one", x.told(2, 0), DONE);
        Due.is("never", x.told(2, 6), 0);
        x.begin(2, 3);
        Due.is("not yet", x.told(2, 6), 0);
        x.tick();
        Due.is("all", x.told(2, 6), 1);
        x.begin(1, 1);
        x.tick();
        Due.is("both", x.told(1, 6), 1);
        Due.is("an idle one", new SagaDesk().told(0, 6), 0);
    }

    // "STEPS of FRONT, as it is when its turn comes"
    private static void theFrontIsAsItsTurnComes() {
        SagaDesk x = begun("{mark;mark|mark;mark};mark");
        Due.is("the first of each", x.told(0, 5), 5);
        Due.is("two lines", x.tick(), 2);
        Due.is("the second of each waits for its tick", x.told(0, 2), 5);
        Due.is("front", x.told(0, 5), 10);
        x.tick();
        Due.is("joined", x.told(0, 5), 16);
        Due.is("the last", x.tick(), 2);
        Due.is("none, as it isn't RUNNING", x.told(0, 5), 0);
    }

    // "Behind its turn: if all STEPS are DONE, it is DONE."
    private static void theLastStepEndsItsSaga() {
        SagaDesk x = begun("mark;{mark|mark}");
        x.tick();
        Due.is("RUNNING", x.told(0, 0), RUNNING);
        Due.is("two steps and the end", x.tick(), 3);
        Due.line(x, 4, 5, 0, DONE);
        Due.is("DONE", x.told(0, 0), DONE);
        Due.is("all", x.told(0, 2), 7);
        x.breaks(4);
        Due.is("its end is lost", x.told(0, 0), RUNNING);
        Due.is("nothing is in front", x.told(0, 5), 0);
        Due.is("behind its turn it ends", x.tick(), 1);
        Due.line(x, 4, 5, 0, DONE);
        x.breaks(3);
        Due.is("one step is left", x.told(0, 5), 4);
        Due.is("it, and the end", x.tick(), 2);
    }

    // "Behind its turn (also if there was none): if none is DONE any more, it is UNDONE."
    private static void backWithNoneDone() {
        SagaDesk x = begun("take a 101;mark");
        Due.is("it fails", x.tick(), 1);
        Due.is("BACK", x.told(0, 0), BACK);
        Due.is("there was none", x.tick(), 1);
        Due.line(x, 2, 5, 0, UNDONE);
        Due.is("UNDONE", x.told(0, 0), UNDONE);
        Due.is("none is UNDONE", x.told(0, 3), 0);
        Due.is("no more", x.tick(), 0);
    }

    private static void backEndsWithTheLastUndoing() {
        SagaDesk x = begun("mark;mark;take a 101");
        x.plan(0, 0, 1, 1);
        Due.ticks(x, 3);
        Due.is("one undoing", x.tick(), 1);
        Due.is("BACK", x.told(0, 0), BACK);
        Due.is("the last, parked, and the end", x.tick(), 2);
        Due.is("UNDONE", x.told(0, 0), UNDONE);
        Due.is("UNDONE", x.told(0, 3), 2);
        Due.is("PARKED", x.told(0, 4), 1);
    }

    // "of STEPS that are DONE the one that became so last is UNDONE"
    private static void theLastDoneIsUndoneFirst() {
        SagaDesk x = begun("{mark;mark;mark|mark};{mark|take a 101}");
        Due.ticks(x, 4);
        int[] order = {4, 2, 1, 3, 0};
        for (int i = 0; i < 5; i++) {
            Due.is("the last", x.told(0, 7), order[i]);
            int before = x.told(0, 3);
            x.tick();
            Due.is("is UNDONE", x.told(0, 3) & ~before, 1 << order[i]);
        }
        Due.is("none is left", x.told(0, 7), NONE);
        Due.is("UNDONE", x.told(0, 0), UNDONE);
    }

    // "SAGAS by numbers"
    private static void sagasByNumbers() {
        SagaDesk x = Due.desk("take a 60", "take a 60", "add a 30");
        x.begin(2, 2);
        x.begin(1, 1);
        x.begin(0, 0);
        x.tick();
        Due.is("the first takes", x.told(0, 0), DONE);
        Due.is("the second fails", x.told(1, 0), BACK);
        Due.is("the third comes too late", x.told(2, 0), DONE);
        Due.is("balance", x.count(10), 70);
    }

    // ---- promise 11: told

    private static void toldIsRefused() {
        SagaDesk x = begun("mark");
        for (int what = 0; what < 8; what++) {
            int asked = what;
            for (int s : new int[] {-1, 3, Integer.MIN_VALUE, Integer.MAX_VALUE}) {
                Due.is("told(" + s + ", " + what + ")", x.told(s, asked), BAD);
            }
        }
        Due.edges("told, saga", 0, 2, BAD, s -> x.told(s, 0));
        Due.edges("told, what", 0, 7, BAD, what -> x.told(0, what));
        Due.edges("told of an idle one, what", 0, 7, BAD, what -> x.told(2, what));
    }

    private static void toldAtItsEdges() {
        SagaDesk x = Due.desk("mark", "mark", "mark", "mark", "mark", TWELVE);
        int[] idle = {IDLE, NONE, 0, 0, 0, 0, 0, NONE};
        for (int what = 0; what < 8; what++) {
            Due.is("idle, " + what, x.told(1, what), idle[what]);
        }
        x.begin(1, 5);
        Due.is("the last text", x.told(1, 1), 5);
        Due.is("the first step", x.told(1, 5), 1);
        Due.is("none was done", x.told(1, 7), NONE);
        Due.ticks(x, 11);
        Due.is("the last step", x.told(1, 5), 2048);
        Due.is("eleven", x.told(1, 2), 2047);
        x.plan(1, 11, 0, 1);
        x.tick();
        Due.is("front, if it is BACK", x.told(1, 5), 0);
        Due.is("the eleventh", x.told(1, 7), 10);
        x.tick();
        Due.is("the tenth", x.told(1, 7), 9);
        Due.is("UNDONE", x.told(1, 3), 1024);
        x.begin(0, 5);
        Due.ticks(x, 12);
        Due.is("all twelve", x.told(0, 2), 4095);
        Due.is("the twelfth", x.told(0, 7), 11);
        SagaDesk y = begun("!;take a 101");
        Due.ticks(y, 3);
        Due.is("front, if it is STUCK", y.told(0, 5), 0);
    }

    // ---- promise 12: why

    private static void whyIsRefused() {
        SagaDesk x = Due.desk("mark;mark;mark", TWELVE);
        Due.edges("why of an idle one, step", 0, 11, BAD, i -> x.why(1, i));
        Due.is("step 0 of an idle one", x.why(1, 0), STATE);
        Due.is("step 11 of an idle one", x.why(1, 11), STATE);
        x.begin(0, 0);
        x.begin(1, 1);
        Due.edges("why, saga", 0, 2, BAD, s -> x.why(s, 0));
        Due.edges("why, step of three", 0, 2, BAD, i -> x.why(0, i));
        Due.edges("why, step of twelve", 0, 11, BAD, i -> x.why(1, i));
        x.breaks(0);
        Due.is("IDLE again", x.why(0, 11), STATE);
    }

    // "0: none FAILED since the SAGA was begun, or THE LOG broke"
    private static void whyAtItsEdges() {
        SagaDesk x = begun("!;{take a 101|add b 9|mark}");
        x.set(1, 9991);
        x.plan(0, 2, 0, 1);
        Due.is("none FAILED yet", x.why(0, 0), 0);
        x.tick();
        Due.is("LOW", x.why(0, 0), 2);
        Due.is("HIGH", x.why(0, 1), 3);
        Due.is("PLANNED", x.why(0, 2), 1);
        x.breaks(x.count(2));
        for (int step = 0; step < 3; step++) {
            Due.is("THE LOG broke, at its end", x.why(0, step), 0);
        }
        Due.ticks(x, 2);
        Due.is("STUCK", x.told(0, 0), STUCK);
        Due.is("LOW", x.why(0, 0), 2);
        x.begin(0, 0);
        Due.is("begun anew", x.why(0, 0), 0);
        SagaDesk z = begun("!;take a 101;mark");
        z.tick();
        z.set(0, 101);
        z.tick();
        Due.is("it is DONE", z.told(0, 2), 1);
        Due.is("it FAILED since the saga was begun", z.why(0, 0), 2);
        SagaDesk y = begun("add a 5;take b 101");
        Due.ticks(y, 2);
        Due.is("a step that did not fail", y.why(0, 0), 0);
        y.set(0, 4);
        y.tick();
        Due.is("an UNDOING that FAILED", y.why(0, 0), 2);
        Due.is("a TRY that FAILED ahead of it", y.why(0, 1), 2);
        y.breaks(y.count(2));
        Due.is("it is PARKED", y.told(0, 4), 1);
        Due.is("THE LOG broke behind an UNDOING", y.why(0, 0), 0);
        Due.is("and behind a TRY", y.why(0, 1), 0);
    }

    // ---- promise 13: set

    private static void setIsRefused() {
        Due.edges("set, account", 0, 5, BAD, a -> new SagaDesk().set(a, 0));
        Due.edges("set, v", 0, 9999, BAD, v -> new SagaDesk().set(5, v));
        SagaDesk x = new SagaDesk();
        x.set(6, 1);
        x.set(0, 10000);
        Due.is("no line of what is BAD", x.count(2), 0);
        Due.is("what it was", x.set(0, 100), 100);
        Due.is("a line also of what changes nothing", x.count(2), 1);
    }

    private static void setNeedsALine() {
        SagaDesk x = deskOfLines(239);
        Due.is("the last line", x.set(0, 7), 100);
        Due.line(x, 239, 6, 0, 7);
        Due.is("no line more", x.set(0, 8), FULL);
        Due.is("240", x.count(2), 240);
        Due.is("it stays", x.count(10), 7);
        Due.is("BAD ahead of FULL", x.set(6, 0), BAD);
        Due.is("BAD ahead of FULL", x.set(0, -1), BAD);
        Due.is("all 240 are replayed", x.replay(240, 0), 7);
        Due.is("239", x.replay(239, 0), 100);
    }

    private static void refusalsChangeNothing() {
        Supplier<SagaDesk> maker = () -> {
            SagaDesk desk = Due.desk("mark;mark", "!;take a 101");
            desk.begin(0, 0);
            desk.begin(1, 1);
            desk.plan(0, 1, 0, 2);
            desk.tick();
            return desk;
        };
        Due.refused("sagas, BAD", BAD, maker, x -> x.begin(3, 0), x -> x.begin(2, 2), x -> x.plan(0, 2, 0, 1),
            x -> x.plan(0, 1, 2, 1), x -> x.plan(0, 1, 0, 10), x -> x.told(0, 8), x -> x.why(0, 2), x -> x.set(6, 1),
            x -> x.set(0, 10000));
        Due.refused("sagas, STATE", STATE, maker, x -> x.begin(0, 1), x -> x.begin(1, 0), x -> x.plan(2, 0, 0, 1),
            x -> x.why(2, 0));
        Due.refused("sagas, FULL", FULL, () -> {
            SagaDesk desk = deskOfLines(239, "mark");
            desk.begin(0, 0);
            return desk;
        }, x -> x.tick(), x -> x.begin(1, 0), x -> x.set(0, 1));
    }
}
