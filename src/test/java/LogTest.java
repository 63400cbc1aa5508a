/** Promises 14 to 16: line, replay, breaks. */
final class LogTest {
    private static final int BAD = SagaDesk.BAD, NONE = SagaDesk.NONE;

    public static void main(String[] args) {
        lines();
        replaying();
        replayingIsAsItWas();
        breaking();
        breakingWithinATurn();
        breakingAheadOfAnEnd();
        whatStays();
        Due.end();
    }

    private static void lines() {
        SagaDesk x = Due.desk("mark", "add a 1;take b 101");
        Due.is("line(0, 0) of none", x.line(0, 0), -12);
        Due.is("BAD ahead of -12", x.line(0, 3), BAD);
        x.set(3, 77);
        x.begin(1, 1);
        Due.ticks(x, 3);
        Due.line(x, 0, 6, 3, 77);
        Due.line(x, 1, 0, 1, 1);
        Due.line(x, 2, 1, 1, 0);
        Due.line(x, 3, 2, 1, 1);
        Due.line(x, 4, 3, 1, 0);
        Due.line(x, 5, 5, 1, 4);
        Due.is("line(6, 0)", x.line(6, 0), -12);
        Due.is("line(-1, 0)", x.line(-1, 0), -12);
        Due.is("line(0, -1)", x.line(0, -1), BAD);
        Due.is("line(0, 3)", x.line(0, 3), BAD);
        x.begin(0, 1);
        x.tick();
        x.plan(0, 0, 1, 1);
        Due.ticks(x, 2);
        Due.line(x, 9, 4, 0, 0);
        Due.line(x, 10, 5, 0, 4);
    }

    private static void replaying() {
        SagaDesk x = Due.desk("hold a 10;mark;take b 101");
        x.set(0, 50);
        x.begin(1, 0);
        Due.ticks(x, 3);
        x.plan(1, 1, 1, 1);
        Due.ticks(x, 2);
        // set, begun, done, done, failed, parked, undone, ended
        Due.is("lines", x.count(2), 8);
        int[][] due = {
            {100, 0, 0, 0, 0, 0, 0}, {50, 0, 0, 0, 0, 0, 0}, {50, 0, 0, 1, 0, 0, 0}, {40, 10, 0, 1, 1, 0, 0},
            {40, 10, 1, 1, 3, 0, 0}, {40, 10, 1, 2, 3, 0, 0}, {40, 10, 1, 2, 1, 0, 2}, {50, 0, 1, 2, 0, 1, 2},
            {50, 0, 1, 4, 0, 1, 2}};
        int[] asked = {0, 6, 7, 11, 21, 31, 41};
        for (int n = 0; n <= 8; n++) {
            for (int i = 0; i < asked.length; i++) {
                Due.is("replay(" + n + ", " + asked[i] + ")", x.replay(n, asked[i]), due[n][i]);
            }
            Due.is("another saga", x.replay(n, 10) + x.replay(n, 22) + x.replay(n, 30) + x.replay(n, 42), 0);
        }
        int[] bad = {-1, 8, 9, 13, 19, 23, 29, 33, 43, 49, 50, 60, 100, Integer.MAX_VALUE, Integer.MIN_VALUE};
        for (int what : bad) {
            Due.is("replay(0, " + what + ")", x.replay(0, what), BAD);
        }
        Due.is("replay(9, 0)", x.replay(9, 0), BAD);
        Due.is("replay(-1, 0)", x.replay(-1, 0), BAD);
        Due.is("nothing truly came", x.count(10), 50);
        Due.is("nothing truly came", x.told(1, 0), 4);
    }

    /** What a whole log tells is what is. */
    private static void replayingIsAsItWas() {
        SagaDesk x = Due.desk("{add a 60|swap a b|hold c 30};!;{take b 30|move d e 100|mark};take f 101",
            "take c 50;{mark|hold c 50}");
        x.begin(0, 0);
        x.begin(1, 1);
        x.begin(2, 1);
        for (int t = 0; t < 8; t++) {
            int n = x.count(2);
            for (int a = 0; a < 6; a++) {
                Due.is("balance " + a, x.replay(n, a), x.count(10 + a));
            }
            Due.is("held", x.replay(n, 6), x.count(4));
            Due.is("marks", x.replay(n, 7), x.count(5));
            for (int s = 0; s < 3; s++) {
                Due.is("state", x.replay(n, 10 + s), x.told(s, 0));
                Due.is("done", x.replay(n, 20 + s), x.told(s, 2));
                Due.is("undone", x.replay(n, 30 + s), x.told(s, 3));
                Due.is("parked", x.replay(n, 40 + s), x.told(s, 4));
            }
            x.tick();
        }
    }

    private static void breaking() {
        SagaDesk x = Due.desk("add a 5;mark;take b 101");
        Due.is("breaks(1) of none", x.breaks(1), BAD);
        Due.is("breaks(0) of none", x.breaks(0), 0);
        x.begin(0, 0);
        Due.ticks(x, 2);
        x.set(5, 1);
        Due.is("breaks(-1)", x.breaks(-1), BAD);
        Due.is("breaks(5)", x.breaks(5), BAD);
        x.plan(0, 2, 0, 4);
        Due.is("breaks(3)", x.breaks(3), 1);
        Due.is("lines", x.count(2), 3);
        Due.is("the balance is as it was", x.count(15), 100);
        Due.is("done", x.told(0, 2), 3);
        Due.is("no plans any more", x.plan(0, 2, 0, 0), 0);
        Due.is("breaks(2)", x.breaks(2), 1);
        Due.is("marks", x.count(5), 0);
        Due.is("balance", x.count(10), 105);
        Due.is("front", x.told(0, 5), 2);
        Due.is("the last", x.told(0, 7), 0);
        Due.ticks(x, 2);
        Due.is("it goes on", x.told(0, 0), 2);
        Due.is("breaks(1)", x.breaks(1), 3);
        Due.is("RUNNING", x.told(0, 0), 1);
        Due.is("breaks(0)", x.breaks(0), 1);
        Due.is("IDLE", x.told(0, 0), 0);
        Due.is("no text", x.told(0, 1), NONE);
        // Plans and reasons go also where no line is lost.
        x.begin(0, 0);
        Due.ticks(x, 3);
        x.plan(0, 0, 1, 2);
        Due.is("why", x.why(0, 2), 2);
        Due.is("breaks at its end", x.breaks(x.count(2)), 0);
        Due.is("why", x.why(0, 2), 0);
        Due.is("plan", x.plan(0, 0, 1, 0), 0);
    }

    private static void breakingWithinATurn() {
        SagaDesk x = Due.desk("{add a 1|add b 2|add c 3};mark", "take f 101");
        x.begin(0, 0);
        x.begin(1, 1);
        x.tick();
        // begun, begun, done 0, done 1, done 2, failed
        Due.is("breaks(4)", x.breaks(4), 2);
        Due.is("front", x.told(0, 5), 4);
        Due.is("RUNNING", x.told(1, 0), 1);
        Due.is("balance", x.count(12), 100);
        Due.is("what is left of the turn, and the other's", x.tick(), 2);
        Due.line(x, 4, 1, 0, 2);
        Due.line(x, 5, 2, 1, 0);
        Due.is("front", x.told(0, 5), 8);
        // The order in which they became DONE is the log's.
        x.breaks(5);
        Due.is("the last", x.told(0, 7), 2);
    }

    private static void breakingAheadOfAnEnd() {
        SagaDesk x = Due.desk("mark", "take a 101", "!;take a 101", "add a 1;take b 101");
        x.begin(0, 0);
        x.tick();
        Due.is("its end is lost", x.breaks(2), 1);
        Due.is("RUNNING", x.told(0, 0), 1);
        Due.is("all DONE", x.told(0, 2), 1);
        Due.is("it ends", x.tick(), 1);
        Due.line(x, 2, 5, 0, 3);
        Due.is("DONE", x.told(0, 0), 3);
        Due.is("marks", x.count(5), 1);
        x.breaks(0);
        x.begin(0, 1);
        Due.ticks(x, 2);
        Due.is("its end is lost", x.breaks(2), 1);
        Due.is("BACK", x.told(0, 0), 2);
        Due.is("it ends", x.tick(), 1);
        Due.is("UNDONE", x.told(0, 0), 4);
        // The third failure stands, its end is lost: a fourth one is the end, or it goes on.
        x.breaks(0);
        x.begin(0, 2);
        Due.ticks(x, 3);
        Due.is("STUCK", x.told(0, 0), 5);
        Due.is("lines", x.count(2), 5);
        Due.is("its end is lost", x.breaks(4), 1);
        Due.is("RUNNING", x.told(0, 0), 1);
        Due.is("a fourth failure", x.tick(), 2);
        Due.is("STUCK", x.told(0, 0), 5);
        x.breaks(4);
        x.set(0, 101);
        Due.is("or none", x.tick(), 2);
        Due.is("DONE", x.told(0, 0), 3);
        x.breaks(3);
        Due.is("two failures are left", x.tick(), 2);
        Due.is("STUCK", x.told(0, 0), 5);
        // The way back goes on as well.
        x.breaks(0);
        x.begin(2, 3);
        Due.ticks(x, 3);
        Due.is("UNDONE", x.told(2, 0), 4);
        Due.is("the undoing is lost", x.breaks(3), 2);
        Due.is("BACK", x.told(2, 0), 2);
        Due.is("balance", x.count(10), 101);
        Due.is("it is undone again", x.tick(), 2);
        Due.is("balance", x.count(10), 100);
    }

    private static void whatStays() {
        SagaDesk x = Due.desk("mark");
        Due.feed(x, "add");
        x.sheet(0, 1, 3);
        x.begin(0, 0);
        x.tick();
        x.breaks(0);
        Due.is("texts stay", x.count(0), 1);
        Due.is("the tape stays", x.count(1), 3);
        Due.is("sheets stay", x.cell(0, 2, 5), 1);
        Due.is("marks don't", x.count(5), 0);
    }
}
