/** Promises 17 to 20: run, ends, drawn, chance. */
final class ThoughtTest {
    private static final int BAD = SagaDesk.BAD, STATE = SagaDesk.STATE;

    public static void main(String[] args) {
        running();
        ending();
        drawing();
        drawingDropsPlans();
        chances();
        chancesOneByOne();
        Due.end();
    }

    private static void running() {
        SagaDesk x = Due.desk("add a 5;hold b 10;mark;take c 101", "!;take c 101");
        x.begin(0, 0);
        x.begin(2, 1);
        x.plan(0, 1, 1, 1);
        int[] states = {1, 1, 1, 1, 2, 2, 2, 4};
        for (int n = 0; n < states.length; n++) {
            Due.is("run(" + n + ", 10)", x.run(n, 10), states[n]);
        }
        Due.is("balance", x.run(1, 0), 105);
        Due.is("held", x.run(2, 6), 10);
        Due.is("marks", x.run(3, 7), 1);
        Due.is("done", x.run(4, 20), 7);
        Due.is("undone", x.run(5, 30), 4);
        Due.is("parked, by the plan", x.run(60, 40), 2);
        Due.is("undone", x.run(60, 30), 5);
        Due.is("another", x.run(60, 12), 5);
        Due.is("run(-1, 0)", x.run(-1, 0), BAD);
        Due.is("run(61, 0)", x.run(61, 0), BAD);
        int[] bad = {-1, 8, 9, 13, 19, 23, 33, 43, 50};
        for (int what : bad) {
            Due.is("run(0, " + what + ")", x.run(0, what), BAD);
        }
        Due.is("nothing truly came", x.count(2), 2);
        Due.is("nor was the plan spent", x.plan(0, 1, 1, 0), 1);
        Due.is("nor is there a why", x.why(0, 3), 0);
    }

    private static void ending() {
        SagaDesk x = Due.desk("mark;mark;mark", "mark;take a 101", "!;take a 101", "take a 1;take b 2;take c 101");
        Due.is("ends(0, 0)", x.ends(0, 0), STATE);
        Due.is("ends(3, 0)", x.ends(3, 0), BAD);
        Due.is("ends(-1, 0)", x.ends(-1, 0), BAD);
        Due.is("ends(0, 3)", x.ends(0, 3), BAD);
        Due.is("ends(0, -1)", x.ends(0, -1), BAD);
        x.begin(0, 0);
        x.begin(1, 1);
        x.begin(2, 2);
        int[][] due = {{3, 3, 0}, {3, 4, 0}, {3, 5, 0}};
        for (int s = 0; s < 3; s++) {
            for (int what = 0; what < 3; what++) {
                Due.is("ends(" + s + ", " + what + ")", x.ends(s, what), due[s][what]);
            }
        }
        x.plan(1, 0, 1, 1);
        Due.is("one is parked", x.ends(1, 2), 1);
        Due.ticks(x, 3);
        Due.is("it has ended", x.ends(0, 0), 0);
        Due.is("so", x.ends(0, 1), 3);
        Due.is("one is parked", x.ends(1, 2), 1);
        x.begin(0, 3);
        x.plan(0, 0, 1, 9);
        x.plan(0, 1, 1, 9);
        Due.is("ends", x.ends(0, 0), 5);
        Due.is("UNDONE", x.ends(0, 1), 4);
        Due.is("two are parked", x.ends(0, 2), 2);
        // The longest: 12 steps, two failures each.
        SagaDesk y = Due.desk("!;mark;mark;mark;mark;mark;mark;mark;mark;mark;mark;mark;mark");
        y.begin(0, 0);
        for (int i = 0; i < 12; i++) {
            y.plan(0, i, 0, 2);
        }
        Due.is("ends", y.ends(0, 0), 36);
        Due.is("DONE", y.ends(0, 1), 3);
    }

    /** How many of a chain of 12 marks fail by a seed, as the document draws them. */
    private static int firstDrawn(int seed) {
        int z = seed;
        for (int i = 0; i < 12; i++) {
            z = z * 1103515245 + 12345;
            if ((z >>> 9) % 4 == 0) {
                return i;
            }
        }
        return -1;
    }

    private static void drawing() {
        SagaDesk x = Due.desk("mark;mark;mark;mark", "!;mark;mark;mark;mark", "mark;mark");
        Due.is("drawn(0, 1)", x.drawn(0, 1), STATE);
        Due.is("drawn(3, 1)", x.drawn(3, 1), BAD);
        Due.is("drawn(-1, 1)", x.drawn(-1, 1), BAD);
        x.begin(0, 0);
        x.begin(1, 1);
        x.begin(2, 2);
        int[] seeds = {0, 1, 2, 3, 4, 5, 6, 7, 8, 9, 10, 11, 12, 13, 14, 15, -1, -7, 99999, Integer.MAX_VALUE,
            Integer.MIN_VALUE};
        int failing = 0;
        for (int seed : seeds) {
            int first = firstDrawn(seed);
            boolean fails = first >= 0 && first < 4;
            failing += fails ? 1 : 0;
            Due.is("drawn(0, " + seed + ")", x.drawn(0, seed), fails ? 4 : 3);
            Due.is("one failure each is tried again", x.drawn(1, seed), 3);
            Due.is("only its own steps", x.drawn(2, seed), first == 0 || first == 1 ? 4 : 3);
        }
        Due.holds("some fail, some don't", failing > 3 && failing < seeds.length - 3);
        Due.is("nothing truly came", x.count(5), 0);
        Due.is("nor any plan", x.plan(0, 0, 0, 0) + x.plan(0, 1, 0, 0), 0);
        Due.ticks(x, 4);
        Due.is("one that has ended stays so", x.drawn(0, 0) + x.drawn(0, 1) + x.drawn(0, 2), 9);
    }

    private static void drawingDropsPlans() {
        SagaDesk x = Due.desk("mark;mark;take a 101", "!;mark;mark;take a 100", "mark");
        int calm = 0;
        while (firstDrawn(calm) >= 0 && firstDrawn(calm) < 4) {
            calm++;
        }
        x.begin(0, 2);
        x.plan(0, 0, 0, 5);
        Due.is("its plan is 0", x.drawn(0, calm), 3);
        // The other saga takes what this one needs, unless its plan holds it back.
        x.begin(2, 1);
        Due.is("it has enough", x.drawn(2, calm), 3);
        x.begin(1, 0);
        SagaDesk y = Due.desk("take a 60", "mark;take a 60");
        y.begin(0, 0);
        y.begin(1, 1);
        Due.is("the other takes it", y.drawn(1, calm), 4);
        y.plan(0, 0, 0, 1);
        Due.is("the other's plan would hold it back", y.ends(1, 1), 3);
        Due.is("but it is 0", y.drawn(1, calm), 4);
        Due.is("the plan stays", y.plan(0, 0, 0, 0), 1);
    }

    private static void chances() {
        SagaDesk x = Due.desk("mark;mark;mark;mark", "!;mark", "take a 101");
        Due.is("chance(0, 1, 1, 0)", x.chance(0, 1, 1, 0), STATE);
        Due.is("chance(3, 1, 1, 0)", x.chance(3, 1, 1, 0), BAD);
        Due.is("chance(-1, 1, 1, 0)", x.chance(-1, 1, 1, 0), BAD);
        Due.is("m 0", x.chance(0, 1, 0, 0), BAD);
        Due.is("m 21", x.chance(0, 1, 21, 0), BAD);
        Due.is("part 2", x.chance(0, 1, 1, 2), BAD);
        Due.is("part -1", x.chance(0, 1, 1, -1), BAD);
        x.begin(0, 0);
        x.begin(1, 1);
        x.begin(2, 2);
        Due.is("always", x.chance(1, 5, 20, 0), 1);
        Due.is("always", x.chance(1, 5, 20, 1), 1);
        Due.is("never", x.chance(2, 5, 20, 0), 0);
        Due.is("never", x.chance(2, 5, 20, 1), 1);
    }
    /** Against the seeds one by one. */
    private static void chancesOneByOne() {
        int[] seeds = {0, 100, -10, Integer.MAX_VALUE - 3};
        for (int seed : seeds) {
            SagaDesk x = Due.desk("mark;mark;mark;mark");
            x.begin(0, 0);
            int good = 0;
            for (int m = 1; m <= 20; m++) {
                good += x.drawn(0, seed + m - 1) == 3 ? 1 : 0;
                int above = x.chance(0, seed, m, 0);
                int below = x.chance(0, seed, m, 1);
                Due.is("chance, " + m, above * m, good * below);
                for (int d = 2; d <= m; d++) {
                    Due.holds("lowest terms", above % d != 0 || below % d != 0);
                }
            }
        }
    }
}
