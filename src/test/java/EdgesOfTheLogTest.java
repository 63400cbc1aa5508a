import java.util.function.Supplier;

/** The edges of promises 14 to 16: line, replay, breaks. */
final class EdgesOfTheLogTest {
    private static final int BAD = SagaDesk.BAD, NONE = SagaDesk.NONE, OUTSIDE = -12;
    private static final int IDLE = 0, RUNNING = 1, BACK = 2, DONE = 3, UNDONE = 4, STUCK = 5;

    public static void main(String[] args) {
        lineIsRefused();
        lineIsBadAheadOfOutside();
        linesOfEachSort();
        theLastOfAllLines();
        replayIsRefused();
        replayOfNoneAndOfAll();
        replayAsksForEach();
        replayOfAThirdFailure();
        replayOfEachText();
        breaksIsRefused();
        breaksAtTheEnds();
        breaksWithinATick();
        breaksBehindAFailure();
        breaksAheadOfAnEnd();
        breaksAmongUndoings();
        breaksEndsPlans();
        breaksLeavesTextsTapeAndSheets();
        theLogFillsAgain();
        refusalsChangeNothing();
        Due.end();
    }

    /** set, BEGUN, DONE 0, FAILED 1, UNDONE 0, ENDED: six lines of saga 2. */
    private static SagaDesk sixLines() {
        SagaDesk desk = Due.desk("mark", "add a 5;take b 101");
        desk.set(4, 9999);
        desk.begin(2, 1);
        Due.ticks(desk, 3);
        Due.is("six lines", desk.count(2), 6);
        return desk;
    }

    // ---- promise 14: line

    private static void lineIsRefused() {
        SagaDesk x = sixLines();
        for (int what = 0; what < 3; what++) {
            int asked = what;
            Due.edges("line(k, " + what + ")", 0, 5, OUTSIDE, k -> x.line(k, asked));
            Due.is("of no line", new SagaDesk().line(0, what), OUTSIDE);
        }
        Due.edges("line(5, what)", 0, 2, BAD, what -> x.line(5, what));
    }

    // "BAD: what; -12."
    private static void lineIsBadAheadOfOutside() {
        SagaDesk x = sixLines();
        Due.is("both", x.line(6, 3), BAD);
        Due.is("both", x.line(-1, -1), BAD);
        Due.is("both, of no line", new SagaDesk().line(0, 3), BAD);
        Due.is("the place alone", x.line(6, 2), OUTSIDE);
    }

    // "what it is (0 .. 6; what 0), its SAGA (1; of SET the ACCOUNT), its TEXT, STEP, of ENDED how it is then, .."
    private static void linesOfEachSort() {
        SagaDesk x = sixLines();
        int[][] due = {{6, 4, 9999}, {0, 2, 1}, {1, 2, 0}, {2, 2, 1}, {3, 2, 0}, {5, 2, UNDONE}};
        for (int k = 0; k < due.length; k++) {
            Due.line(x, k, due[k][0], due[k][1], due[k][2]);
        }
        x.set(0, 0);
        Due.line(x, 6, 6, 0, 0);
        x.begin(0, 0);
        Due.line(x, 7, 0, 0, 0);
        x.tick();
        Due.line(x, 8, 1, 0, 0);
        Due.line(x, 9, 5, 0, DONE);
        x.begin(1, 1);
        x.tick();
        x.plan(1, 0, 1, 1);
        Due.ticks(x, 2);
        Due.line(x, 13, 4, 1, 0);
        Due.line(x, 14, 5, 1, UNDONE);
    }

    private static void theLastOfAllLines() {
        SagaDesk x = new SagaDesk();
        for (int i = 0; i < 240; i++) {
            x.set(i % 6, i);
        }
        Due.edges("line of 240", 0, 239, OUTSIDE, k -> x.line(k, 0));
        Due.line(x, 0, 6, 0, 0);
        Due.line(x, 239, 6, 5, 239);
        x.set(0, 1);
        Due.line(x, 239, 6, 5, 239);
        Due.is("no line of what is refused", x.line(240, 0), OUTSIDE);
    }

    // ---- promise 15: replay

    private static void replayIsRefused() {
        SagaDesk x = sixLines();
        Due.edges("replay(n, 0)", 0, 6, BAD, n -> x.replay(n, 0));
        Due.edges("of no line", 0, 0, BAD, n -> new SagaDesk().replay(n, 0));
        for (int what = -20; what <= 120; what++) {
            boolean isAsked = what >= 0 && what <= 7 || what >= 10 && what < 50 && what % 10 <= 2;
            Due.is("replay(6, " + what + ") is BAD", x.replay(6, what) == BAD ? 1 : 0, isAsked ? 0 : 1);
        }
        Due.is("the most", x.replay(0, Integer.MAX_VALUE), BAD);
        Due.is("the least", x.replay(0, Integer.MIN_VALUE), BAD);
    }

    // "The first n LINES": "from all as it is at first"
    private static void replayOfNoneAndOfAll() {
        SagaDesk x = sixLines();
        for (int a = 0; a < 6; a++) {
            Due.is("at first", x.replay(0, a), 100);
            Due.is("by all", x.replay(6, a), x.count(10 + a));
        }
        Due.is("held at first", x.replay(0, 6), 0);
        Due.is("marks at first", x.replay(0, 7), 0);
        for (int s = 0; s < 3; s++) {
            Due.is("IDLE at first", x.replay(0, 10 + s), IDLE);
            Due.is("by all", x.replay(6, 10 + s), x.told(s, 0));
        }
        Due.is("by one line", x.replay(1, 4), 9999);
        Due.is("by one line", x.replay(1, 12), IDLE);
        Due.is("by two", x.replay(2, 12), RUNNING);
        Due.is("truly it is as it was", x.told(2, 0), UNDONE);
    }

    private static void replayAsksForEach() {
        SagaDesk x = Due.desk("hold a 10;mark;mark;take b 101", "mark;mark;mark", "!;take c 200");
        x.begin(0, 0);
        x.begin(1, 1);
        x.begin(2, 2);
        Due.ticks(x, 4);
        x.plan(0, 1, 1, 1);
        Due.ticks(x, 2);
        int n = x.count(2);
        int[] states = {BACK, DONE, STUCK};
        int[] done = {1, 7, 0};
        int[] undone = {4, 0, 0};
        int[] parked = {2, 0, 0};
        for (int s = 0; s < 3; s++) {
            Due.is("how saga " + s + " is", x.replay(n, 10 + s), states[s]);
            Due.is("its DONE", x.replay(n, 20 + s), done[s]);
            Due.is("its UNDONE", x.replay(n, 30 + s), undone[s]);
            Due.is("its PARKED", x.replay(n, 40 + s), parked[s]);
        }
        Due.is("balance", x.replay(n, 0), 90);
        Due.is("held", x.replay(n, 6), 10);
        Due.is("marks", x.replay(n, 7), 5);
    }

    // "one that was the third of its STEP behind THE PIVOT stands ahead of its LINE 5: till that comes .. RUNNING"
    private static void replayOfAThirdFailure() {
        SagaDesk x = Due.desk("!;take a 101");
        x.begin(0, 0);
        Due.ticks(x, 3);
        int[] due = {IDLE, RUNNING, RUNNING, RUNNING, RUNNING, STUCK};
        for (int n = 0; n < due.length; n++) {
            Due.is("by " + n + " lines", x.replay(n, 10), due[n]);
        }
        // "a LINE 2 by which a SAGA went BACK sends it BACK"
        SagaDesk y = Due.desk("mark;take a 101;!;mark");
        y.begin(0, 0);
        Due.ticks(y, 3);
        int[] then = {IDLE, RUNNING, RUNNING, BACK, BACK, UNDONE};
        for (int n = 0; n < then.length; n++) {
            Due.is("without the pivot, by " + n + " lines", y.replay(n, 10), then[n]);
        }
    }

    private static void replayOfEachText() {
        SagaDesk x = Due.desk("add a 1", "add b 2", "add c 3", "add d 4", "add e 5", "add f 6");
        for (int text = 0; text < 6; text++) {
            x.begin(text % 3, text);
            x.tick();
        }
        Due.is("three lines of each", x.count(2), 18);
        for (int text = 0; text < 6; text++) {
            Due.is("RUNNING by its first", x.replay(3 * text + 1, 10 + text % 3), RUNNING);
            Due.is("a balance ahead", x.replay(3 * text + 1, text), 100);
            Due.is("a balance behind", x.replay(3 * text + 2, text), 101 + text);
            Due.is("DONE by its last", x.replay(3 * text + 3, 10 + text % 3), DONE);
        }
        for (int text = 5; text >= 0; text--) {
            x.breaks(3 * text + 1);
            Due.is("the text of the saga that it left", x.told(text % 3, 1), text);
            Due.is("its step is to come", x.told(text % 3, 5), 1);
        }
    }

    // ---- promise 16: breaks

    // "BAD: it has fewer."
    private static void breaksIsRefused() {
        Due.edges("breaks of six", 0, 6, BAD, n -> sixLines().breaks(n));
        Due.edges("breaks of none", 0, 0, BAD, n -> new SagaDesk().breaks(n));
        SagaDesk x = sixLines();
        x.breaks(4);
        Due.is("it has fewer now", x.breaks(5), BAD);
        Due.is("it has just so many", x.breaks(4), 0);
    }

    // "how many LINES were lost"
    private static void breaksAtTheEnds() {
        for (int n = 0; n <= 6; n++) {
            SagaDesk x = sixLines();
            Due.is("breaks(" + n + ")", x.breaks(n), 6 - n);
            Due.is("lines", x.count(2), n);
            Due.is("the last line", x.line(n - 1, 0) == OUTSIDE ? 1 : 0, n == 0 ? 1 : 0);
            Due.is("no line behind it", x.line(n, 0), OUTSIDE);
            for (int a = 0; a < 6; a++) {
                Due.is("all is as replayed", x.count(10 + a), x.replay(n, a));
            }
            Due.is("all is as replayed", x.told(2, 0), x.replay(n, 12));
            Due.is("its text", x.told(2, 1), n >= 2 ? 1 : NONE);
            Due.is("its plans may be told", x.plan(2, 1, 0, 0), n >= 2 ? 0 : SagaDesk.STATE);
        }
    }

    // "which may break anywhere": each place of one tick
    private static void breaksWithinATick() {
        for (int n = 1; n <= 5; n++) {
            SagaDesk x = Due.desk("{add a 1|add b 2|add c 3}");
            x.begin(0, 0);
            Due.is("three and the end", x.tick(), 4);
            x.breaks(n);
            Due.is("what is DONE by " + n, x.told(0, 2), (1 << Math.min(3, n - 1)) - 1);
            Due.is("front by " + n, x.told(0, 5), 7 & ~((1 << Math.min(3, n - 1)) - 1));
            Due.is("what comes again", x.tick(), 5 - n);
            Due.is("DONE", x.told(0, 0), DONE);
            Due.is("each once", x.count(10) + x.count(11) + x.count(12), 306);
        }
    }

    private static void breaksBehindAFailure() {
        SagaDesk x = Due.desk("{mark|take a 101|mark};!;take a 101");
        x.begin(0, 0);
        x.tick();
        Due.is("BACK", x.told(0, 0), BACK);
        x.breaks(3);
        Due.is("BACK still", x.told(0, 0), BACK);
        x.breaks(2);
        Due.is("the failure is lost", x.told(0, 0), RUNNING);
        x.set(0, 101);
        Due.is("then it need not fail", x.tick(), 2);
        Due.is("and the pivot is passed", x.told(0, 6), 1);
        Due.ticks(x, 2);
        Due.is("two failures behind it", x.count(2), 7);
        x.breaks(6);
        x.tick();
        Due.is("one is left, and another", x.told(0, 0), RUNNING);
        x.tick();
        Due.is("the third", x.told(0, 0), STUCK);
    }

    private static void breaksAheadOfAnEnd() {
        String[] texts = {"mark", "take a 101", "!;take a 101"};
        int[] ticks = {1, 2, 3};
        int[] ends = {DONE, UNDONE, STUCK};
        int[] before = {RUNNING, BACK, RUNNING};
        int[] lines = {1, 1, 2};
        for (int i = 0; i < 3; i++) {
            SagaDesk x = Due.desk(texts[i]);
            x.begin(0, 0);
            Due.ticks(x, ticks[i]);
            Due.is("it ends", x.told(0, 0), ends[i]);
            Due.is("its end is lost", x.breaks(x.count(2) - 1), 1);
            Due.is("so it is", x.told(0, 0), before[i]);
            Due.is("it may not be begun", x.begin(0, 0), SagaDesk.STATE);
            Due.is("it ends again", x.tick(), lines[i]);
            Due.is("as before", x.told(0, 0), ends[i]);
            Due.is("breaks at its end", x.breaks(x.count(2)), 0);
            Due.is("that stays", x.told(0, 0), ends[i]);
            Due.is("it may be begun", x.begin(0, 0), 1);
        }
    }

    private static void breaksAmongUndoings() {
        for (int n = 4; n <= 7; n++) {
            SagaDesk x = Due.desk("add a 1;add a 2;take b 101");
            x.begin(0, 0);
            x.plan(0, 1, 1, 1);
            Due.ticks(x, 5);
            Due.is("lines", x.count(2), 7);
            x.breaks(n);
            Due.is("PARKED by " + n, x.told(0, 4), n >= 5 ? 2 : 0);
            Due.is("UNDONE by " + n, x.told(0, 3), n >= 6 ? 1 : 0);
            Due.is("the last by " + n, x.told(0, 7), n == 4 ? 1 : n == 5 ? 0 : NONE);
            Due.is("state by " + n, x.told(0, 0), n == 7 ? UNDONE : BACK);
            Due.is("balance by " + n, x.count(10), n >= 6 ? 102 : 103);
            Due.ticks(x, 2);
            Due.is("it goes on to its end", x.told(0, 0), UNDONE);
            Due.is("what was PARKED is so, without plans else none", x.count(10), n == 4 ? 100 : 102);
        }
    }

    // "there are no PLANS any more"
    private static void breaksEndsPlans() {
        SagaDesk x = Due.desk("mark;mark");
        for (int s = 0; s < 3; s++) {
            x.begin(s, 0);
            for (int step = 0; step < 2; step++) {
                x.plan(s, step, 0, 9);
                x.plan(s, step, 1, 9);
            }
        }
        Due.is("none of its lines is lost", x.breaks(3), 0);
        for (int s = 0; s < 3; s++) {
            for (int step = 0; step < 2; step++) {
                Due.is("no plan of trying", x.plan(s, step, 0, 0), 0);
                Due.is("no plan of undoing", x.plan(s, step, 1, 0), 0);
            }
        }
        x.plan(0, 0, 0, 1);
        Due.is("BAD", x.breaks(4), BAD);
        Due.is("then they stay", x.plan(0, 0, 0, 0), 1);
    }

    // "(TEXTS, THE TAPE, SHEETS stay)"
    private static void breaksLeavesTextsTapeAndSheets() {
        SagaDesk x = Due.desk("mark", "add f 7");
        Due.feed(x, "add e ");
        x.sheet(1, 0, 40);
        x.sheet(2, 1, 1);
        x.cell(2, 0, 321);
        x.begin(0, 1);
        x.tick();
        Due.is("all lines are lost", x.breaks(0), 3);
        Due.is("texts", x.count(0), 2);
        Due.is("their steps", x.step(1, 0, 3), 7);
        Due.is("the tape", x.count(1), 6);
        Due.feed(x, "8");
        Due.is("its bytes", x.text(), 2);
        Due.is("its bytes", x.step(2, 0, 3), 8);
        Due.is("a sheet", Due.sizeOf(x, 1), 40);
        x.set(5, 321);
        Due.is("its items", x.tells(2, 5, 0, 0), NONE);
        Due.is("a missing one", Due.sizeOf(x, 0), -11);
    }

    private static void theLogFillsAgain() {
        SagaDesk x = new SagaDesk();
        for (int i = 0; i < 240; i++) {
            x.set(0, i);
        }
        Due.is("FULL", x.set(0, 1), SagaDesk.FULL);
        Due.is("one is lost", x.breaks(239), 1);
        Due.is("as by 239", x.count(10), 238);
        Due.is("room for one", x.set(0, 1), 238);
        Due.is("FULL", x.set(0, 1), SagaDesk.FULL);
        Due.is("all are lost", x.breaks(0), 240);
        Due.is("at first", x.set(0, 1), 100);
        Due.is("one line", x.count(2), 1);
    }

    private static void refusalsChangeNothing() {
        Supplier<SagaDesk> maker = () -> {
            SagaDesk desk = Due.desk("mark;mark");
            desk.begin(0, 0);
            desk.plan(0, 1, 1, 3);
            desk.tick();
            return desk;
        };
        Due.refused("the log, BAD", BAD, maker, x -> x.line(0, 3), x -> x.replay(3, 0), x -> x.replay(2, 8),
            x -> x.replay(-1, 0), x -> x.breaks(3), x -> x.breaks(-1));
        Due.refused("the log, -12", OUTSIDE, maker, x -> x.line(2, 0), x -> x.line(-1, 0));
        Due.refused("a replay, which is answered", 0, maker, x -> x.replay(0, 10), x -> x.replay(1, 7),
            x -> x.replay(1, 20), x -> x.replay(2, 11));
    }
}
