import java.util.function.Supplier;

/** The edges of promises 17 to 20: run, ends, drawn, chance. */
final class EdgesOfThoughtTest {
    private static final int BAD = SagaDesk.BAD, STATE = SagaDesk.STATE;
    private static final int IDLE = 0, RUNNING = 1, BACK = 2, DONE = 3, UNDONE = 4, STUCK = 5;
    private static final String TWELVE = "mark;mark;mark;mark;mark;mark;mark;mark;mark;mark;mark;mark";

    public static void main(String[] args) {
        runIsRefused();
        runOfNoTick();
        runGoesTickByTick();
        whatIsThoughtComesTrue();
        runGoesOnWherePlansAre();
        runGoesOnWhereTheLogIsFull();
        endsIsRefused();
        endsAtItsEdges();
        endsCountsFailuresOn();
        endsOfOneThatHasEnded();
        theLongestSaga();
        drawnIsRefused();
        drawnWrapsAround();
        drawnPlansTriesOfItsOwnStepsAlone();
        drawnGoesOnForLong();
        drawnOfOneThatHasEnded();
        chanceIsRefused();
        chanceIsInLowestTerms();
        chanceWrapsAround();
        refusalsChangeNothing();
        Due.end();
    }

    private static SagaDesk begun(String... texts) {
        SagaDesk desk = Due.desk(texts);
        for (int s = 0; s < texts.length; s++) {
            desk.begin(s, s);
        }
        return desk;
    }

    // ---- promise 17: run

    private static void runIsRefused() {
        SagaDesk x = begun("mark");
        Due.edges("run(n, 0)", 0, 60, BAD, n -> x.run(n, 0));
        for (int what = -20; what <= 120; what++) {
            boolean isAsked = what >= 0 && what <= 7 || what >= 10 && what < 50 && what % 10 <= 2;
            Due.is("run(1, " + what + ") is BAD", x.run(1, what) == BAD ? 1 : 0, isAsked ? 0 : 1);
        }
        Due.is("the most", x.run(0, Integer.MAX_VALUE), BAD);
        Due.is("the least", x.run(0, Integer.MIN_VALUE), BAD);
        Due.is("of a new object", new SagaDesk().run(60, 12), IDLE);
    }

    private static void runOfNoTick() {
        SagaDesk x = begun("add a 5;mark", "hold b 7;take c 101", "mark");
        x.set(5, 0);
        x.tick();
        for (int a = 0; a < 6; a++) {
            Due.is("balance now", x.run(0, a), x.count(10 + a));
        }
        Due.is("held now", x.run(0, 6), x.count(4));
        Due.is("marks now", x.run(0, 7), x.count(5));
        for (int s = 0; s < 3; s++) {
            Due.is("how it is now", x.run(0, 10 + s), x.told(s, 0));
            Due.is("DONE now", x.run(0, 20 + s), x.told(s, 2));
            Due.is("UNDONE now", x.run(0, 30 + s), x.told(s, 3));
            Due.is("PARKED now", x.run(0, 40 + s), x.told(s, 4));
        }
    }

    /** A saga of 36 ticks: each step fails twice. */
    private static SagaDesk longest() {
        SagaDesk desk = begun("!;" + TWELVE);
        for (int step = 0; step < 12; step++) {
            desk.plan(0, step, 0, 2);
        }
        return desk;
    }

    private static void runGoesTickByTick() {
        SagaDesk x = longest();
        for (int n = 0; n <= 60; n++) {
            Due.is("marks behind " + n, x.run(n, 7), Math.min(12, n / 3));
            Due.is("state behind " + n, x.run(n, 10), n < 36 ? RUNNING : DONE);
        }
        Due.is("nothing truly came", x.count(5), 0);
        Due.is("nor a line", x.count(2), 1);
    }

    private static int[] views() {
        int[] views = new int[20];
        for (int i = 0; i < 20; i++) {
            views[i] = i < 8 ? i : 10 * ((i - 8) / 3 + 1) + (i - 8) % 3;
        }
        return views;
    }

    /** What run() answers ahead of each tick is what is behind it, and behind the next. */
    private static void whatIsThoughtComesTrue() {
        for (int start = 0; start < 8; start++) {
            SagaDesk x = begun("{add a 9;hold b 8|swap a c};{take c 7|mark};move d e 6;take f 101",
                "{hold a 5|mark;add e 4};!;{take d 101|move b f 3}", "swap d c;{mark|add c 2};take e 300");
            x.plan(0, 1, 1, 1);
            x.plan(0, 3, 1, 1);
            x.plan(1, 4, 0, 2);
            Due.ticks(x, start);
            int[] views = views();
            int[][] due = new int[5][20];
            for (int n = 0; n < 5; n++) {
                for (int i = 0; i < 20; i++) {
                    due[n][i] = x.run(n, views[i]);
                }
            }
            for (int n = 0; n < 5; n++) {
                for (int i = 0; i < 20; i++) {
                    Due.is("from " + start + " on, behind " + n + ": " + views[i], x.run(0, views[i]), due[n][i]);
                }
                Due.is("truly, too", x.told(0, 3), due[n][14]);
                Due.is("truly, too", x.count(12), due[n][2]);
                x.tick();
            }
        }
    }

    // "(with PLANS as they are)"
    private static void runGoesOnWherePlansAre() {
        SagaDesk x = begun("mark;take a 101");
        x.plan(0, 0, 1, 1);
        Due.is("parked", x.run(3, 40), 1);
        Due.is("again", x.run(3, 40), 1);
        x.plan(0, 0, 1, 0);
        Due.is("undone", x.run(3, 40), 0);
        Due.is("undone", x.run(3, 30), 1);
        x.plan(0, 0, 0, 1);
        Due.is("it fails at once", x.run(1, 10), BACK);
        Due.is("and is not spent", x.plan(0, 0, 0, 0), 1);
    }

    private static void runGoesOnWhereTheLogIsFull() {
        SagaDesk x = begun("mark;mark;mark");
        for (int line = 1; line < 240; line++) {
            x.set(0, 100);
        }
        Due.is("no tick", x.tick(), SagaDesk.FULL);
        Due.is("in thought there is", x.run(3, 10), DONE);
        Due.is("marks", x.run(2, 7), 2);
        Due.is("ends", x.ends(0, 0), 3);
        Due.is("240 lines", x.count(2), 240);
    }

    // ---- promise 18: ends

    private static void endsIsRefused() {
        SagaDesk x = Due.desk("mark");
        Due.edges("ends of a saga, IDLE", 0, 2, BAD, s -> x.ends(s, 0));
        Due.edges("ends of an idle one, what", 0, 2, BAD, what -> x.ends(1, what));
        for (int what = 0; what < 3; what++) {
            Due.is("IDLE", x.ends(1, what), STATE);
        }
        x.begin(1, 0);
        Due.edges("ends, what", 0, 2, BAD, what -> x.ends(1, what));
        Due.is("another is IDLE still", x.ends(0, 0), STATE);
        x.breaks(0);
        Due.is("IDLE again", x.ends(1, 0), STATE);
    }

    private static void endsAtItsEdges() {
        SagaDesk x = begun("mark", "take a 101", "!;take a 101");
        int[][] due = {{1, DONE, 0}, {2, UNDONE, 0}, {3, STUCK, 0}};
        for (int s = 0; s < 3; s++) {
            for (int what = 0; what < 3; what++) {
                Due.is("ends(" + s + ", " + what + ")", x.ends(s, what), due[s][what]);
            }
        }
        SagaDesk y = begun("{mark|mark|mark};take a 101");
        for (int step = 0; step < 3; step++) {
            y.plan(0, step, 1, 1);
        }
        Due.is("ends", y.ends(0, 0), 5);
        Due.is("UNDONE", y.ends(0, 1), UNDONE);
        Due.is("all are parked", y.ends(0, 2), 3);
        Due.is("truly none is", y.told(0, 4), 0);
    }

    // "the third, or a later, TRY of that STEP that FAILED": those that truly came and those in thought together
    private static void endsCountsFailuresOn() {
        String[] steps = {"take a 101", "add a 1", "mark"};
        for (int reason = 0; reason < 3; reason++) {
            SagaDesk x = Due.desk("!;" + steps[reason]);
            x.set(0, reason == 1 ? 9999 : 100);
            x.begin(0, 0);
            x.plan(0, 0, 0, reason == 2 ? 9 : 0);
            for (int failures = 0; failures < 3; failures++) {
                Due.is("ends behind " + failures, x.ends(0, 0), 3 - failures);
                Due.is("and again", x.ends(0, 0), 3 - failures);
                Due.is("STUCK", x.ends(0, 1), STUCK);
                Due.is("not yet", x.run(2 - failures, 10), RUNNING);
                x.tick();
            }
            Due.is("truly, too", x.told(0, 0), STUCK);
        }
    }

    // "Behind how many TICKS (0 .. 60)"
    private static void endsOfOneThatHasEnded() {
        SagaDesk x = begun("mark", "mark;take a 101", "!;take a 101");
        x.plan(1, 0, 1, 1);
        Due.ticks(x, 3);
        int[][] due = {{0, DONE, 0}, {0, UNDONE, 1}, {0, STUCK, 0}};
        for (int s = 0; s < 3; s++) {
            for (int what = 0; what < 3; what++) {
                Due.is("ends(" + s + ", " + what + ")", x.ends(s, what), due[s][what]);
            }
        }
    }

    private static void theLongestSaga() {
        SagaDesk x = longest();
        Due.is("ends", x.ends(0, 0), 36);
        Due.is("DONE", x.ends(0, 1), DONE);
        x.plan(0, 11, 0, 3);
        Due.is("ends", x.ends(0, 0), 36);
        Due.is("STUCK", x.ends(0, 1), STUCK);
        SagaDesk y = begun("mark;mark;mark;mark;mark;mark;mark;mark;mark;mark;mark;take a 101");
        Due.is("there and back", y.ends(0, 0), 23);
        Due.is("UNDONE", y.ends(0, 1), UNDONE);
    }

    // ---- promise 19: drawn

    private static void drawnIsRefused() {
        SagaDesk x = Due.desk("mark");
        Due.edges("drawn of an idle one", 0, 2, BAD, s -> x.drawn(s, 0));
        Due.is("IDLE", x.drawn(0, 0), STATE);
        x.begin(0, 0);
        Due.edges("drawn", 0, 2, BAD, s -> x.drawn(s, 0));
        int[] seeds = {0, 1, -1, Integer.MIN_VALUE, Integer.MAX_VALUE};
        for (int seed : seeds) {
            Due.holds("any seed is one, " + seed, x.drawn(0, seed) == DONE || x.drawn(0, seed) == UNDONE);
        }
    }

    /** Which of so many steps are drawn by a seed (bits), by longs that are cut to ints. */
    private static int drawnSteps(int seed, int steps) {
        int bits = 0;
        long z = seed;
        for (int i = 0; i < steps; i++) {
            z = z * 1103515245L + 12345L & 0xFFFFFFFFL;
            bits |= (z >> 9 & 3) == 0 ? 1 << i : 0;
        }
        return bits;
    }

    // "(z >>> 9) % 4 is 0", "z * 1103515245 + 12345 (an int; SEED at first) anew for each"
    private static void drawnWrapsAround() {
        int[] seeds = {0, 1, 2, 3, 7, 511, 512, 1024, 99991, 1 << 30, Integer.MAX_VALUE, Integer.MAX_VALUE - 1, -1, -2,
            -512, Integer.MIN_VALUE, Integer.MIN_VALUE + 1};
        for (int steps = 1; steps <= 12; steps++) {
            SagaDesk x = begun(TWELVE.substring(0, 5 * steps - 1));
            for (int seed : seeds) {
                Due.is("drawn(0, " + seed + ") of " + steps, x.drawn(0, seed),
                    drawnSteps(seed, steps) == 0 ? DONE : UNDONE);
            }
        }
    }

    // "PLANS of STEPS 0, 1, .. of a SAGA are 1", "all other PLANS are 0"
    private static void drawnPlansTriesOfItsOwnStepsAlone() {
        // Behind the pivot a plan of 1 costs a tick and no more.
        SagaDesk x = begun("!;" + TWELVE, TWELVE);
        for (int seed = 0; seed < 40; seed++) {
            Due.is("a plan of 1", x.drawn(0, seed), DONE);
        }
        int calm = 0;
        while (drawnSteps(calm, 12) != 0) {
            calm++;
        }
        x.plan(1, 3, 0, 1);
        x.plan(0, 3, 0, 3);
        Due.is("its plans are drawn", x.drawn(1, calm), DONE);
        Due.is("instead of what they are", x.drawn(0, calm), DONE);
        Due.is("that stays", x.ends(0, 1), STUCK);
        // A plan of 1 fails by one tick: by two, the other saga would have come in between.
        SagaDesk z = begun("!;take a 60", "mark;take a 60");
        for (int seed = 0; seed < 20; seed++) {
            Due.is("not of 2, by " + seed, z.drawn(0, seed), DONE);
            Due.is("the other finds too little, by " + seed, z.drawn(1, seed), UNDONE);
        }
        SagaDesk y = begun("take a 60", "mark;take a 60");
        y.plan(0, 0, 0, 1);
        Due.is("by its plan the other leaves it enough", y.ends(1, 1), DONE);
        Due.is("the others' plans are 0", y.drawn(1, calm), UNDONE);
        Due.is("the plan is as it was", y.plan(0, 0, 0, 0), 1);
    }

    // "how it is behind 40 TICKS"
    private static void drawnGoesOnForLong() {
        // Four steps that wait for another saga's add, two ticks each; eight that are drawn or not.
        SagaDesk x = begun("!;take a 1;take a 1;take a 1;take a 1;mark;mark;mark;mark;mark;mark;mark;mark",
            "mark;add a 1;mark;mark;add a 1;mark;mark;add a 1;mark;mark;add a 1");
        x.set(0, 0);
        int seed = 0;
        while ((drawnSteps(seed, 12) & 15) != 0 || Integer.bitCount(drawnSteps(seed, 12)) < 6) {
            seed++;
        }
        int drawn = drawnSteps(seed, 12);
        Due.is("26 ticks, or more", x.drawn(0, seed), DONE);
        for (int step = 0; step < 12; step++) {
            x.plan(0, step, 0, drawn >> step & 1);
        }
        Due.is("as many as these", x.ends(0, 0), 20 + Integer.bitCount(drawn));
    }

    private static void drawnOfOneThatHasEnded() {
        SagaDesk x = begun("mark", "take a 101", "!;take a 101");
        Due.ticks(x, 3);
        for (int seed = 0; seed < 5; seed++) {
            Due.is("DONE", x.drawn(0, seed), DONE);
            Due.is("UNDONE", x.drawn(1, seed), UNDONE);
            Due.is("STUCK", x.drawn(2, seed), STUCK);
        }
    }

    // ---- promise 20: chance

    private static void chanceIsRefused() {
        SagaDesk x = Due.desk("mark");
        Due.edges("chance of an idle one", 0, 2, BAD, s -> x.chance(s, 0, 1, 0));
        Due.is("IDLE", x.chance(0, 0, 20, 1), STATE);
        Due.is("BAD m ahead of STATE", x.chance(0, 0, 21, 0), BAD);
        Due.is("BAD m ahead of STATE", x.chance(0, 0, 0, 0), BAD);
        Due.is("BAD part ahead of STATE", x.chance(0, 0, 1, 2), BAD);
        x.begin(0, 0);
        Due.edges("chance", 0, 2, BAD, s -> x.chance(s, 0, 1, 0));
        Due.edges("chance, m", 1, 20, BAD, m -> x.chance(0, 0, m, 0));
        Due.edges("chance, part", 0, 1, BAD, part -> x.chance(0, 0, 1, part));
    }

    // "part 0 above, 1 below the line, in lowest terms"
    private static void chanceIsInLowestTerms() {
        SagaDesk x = begun("mark;mark", "!;mark", "take a 101");
        for (int seed = 0; seed < 3; seed++) {
            int good = 0;
            for (int m = 1; m <= 20; m++) {
                good += drawnSteps(seed + m - 1, 2) == 0 ? 1 : 0;
                int above = x.chance(0, seed, m, 0);
                int below = x.chance(0, seed, m, 1);
                Due.is("of " + m, above * m, below * good);
                Due.is("their greatest divisor", divisor(above, below), 1);
            }
        }
        int[] some = {1, 2, 20};
        for (int m : some) {
            Due.is("all of " + m, x.chance(1, 7, m, 0), 1);
            Due.is("all of " + m, x.chance(1, 7, m, 1), 1);
            Due.is("none of " + m, x.chance(2, 7, m, 0), 0);
            Due.is("none of " + m, x.chance(2, 7, m, 1), 1);
        }
    }

    private static int divisor(int a, int b) {
        return b == 0 ? a : divisor(b, a % b);
    }

    // "SEED and each 1 more (an int)"
    private static void chanceWrapsAround() {
        SagaDesk x = begun("mark;mark;mark");
        int[] seeds = {Integer.MAX_VALUE, Integer.MAX_VALUE - 9, -10, Integer.MIN_VALUE};
        for (int seed : seeds) {
            int good = 0;
            for (int i = 0; i < 20; i++) {
                good += drawnSteps(seed + i, 3) == 0 ? 1 : 0;
            }
            Due.is("from " + seed, x.chance(0, seed, 20, 0) * 20, x.chance(0, seed, 20, 1) * good);
        }
    }

    private static void refusalsChangeNothing() {
        Supplier<SagaDesk> maker = () -> {
            SagaDesk desk = Due.desk("mark;take a 101");
            desk.begin(0, 0);
            desk.plan(0, 0, 1, 3);
            desk.tick();
            return desk;
        };
        Due.refused("thought, BAD", BAD, maker, x -> x.run(61, 0), x -> x.run(0, 8), x -> x.ends(0, 3), x -> x.ends(3, 0),
            x -> x.drawn(3, 0), x -> x.chance(0, 0, 21, 0), x -> x.chance(0, 0, 1, 2));
        Due.refused("thought, STATE", STATE, maker, x -> x.ends(1, 0), x -> x.drawn(1, 0), x -> x.chance(1, 0, 1, 0));
        Due.refused("thought, which is answered", UNDONE, maker, x -> x.run(60, 10), x -> x.ends(0, 1),
            x -> x.drawn(0, 5), x -> x.chance(0, 5, 20, 0) + UNDONE);
    }
}
