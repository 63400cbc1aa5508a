/** Promises 2 to 7: feed, text, shape, orders, step, taken. */
final class TextsTest {
    private static final int BAD = SagaDesk.BAD, FULL = SagaDesk.FULL, NONE = SagaDesk.NONE;

    public static void main(String[] args) {
        feeding();
        faults();
        tokens();
        roomForTexts();
        shapes();
        risks();
        orders();
        steps();
        kinds();
        Due.end();
    }

    private static void feeding() {
        SagaDesk x = new SagaDesk();
        Due.is("feed(0, ..)", x.feed(0, 1, 1, 1, 1, 1), BAD);
        Due.is("feed(6, ..)", x.feed(6, 1, 1, 1, 1, 1), BAD);
        Due.is("feed(-1, ..)", x.feed(Integer.MIN_VALUE, 1, 1, 1, 1, 1), BAD);
        Due.is("a of 256", x.feed(5, 256, 1, 1, 1, 1), BAD);
        Due.is("b of -1, not asked", x.feed(1, 1, -1, 1, 1, 1), BAD);
        Due.is("c of 256, not asked", x.feed(1, 1, 1, 256, 1, 1), BAD);
        Due.is("d of 256, not asked", x.feed(1, 1, 1, 1, 256, 1), BAD);
        Due.is("e of 256, not asked", x.feed(4, 1, 1, 1, 1, 256), BAD);
        Due.is("nothing came", x.count(1), 0);
        for (int i = 1; i <= 23; i++) {
            Due.is("feed", x.feed(5, 0, 255, 32, 10, 97), 5 * i);
        }
        Due.is("feed", x.feed(2, 0, 255, 32, 10, 97), 117);
        Due.is("no room for four", x.feed(4, 0, 0, 0, 0, 0), FULL);
        Due.is("BAD ahead of FULL", x.feed(4, 0, 0, 0, 0, 256), BAD);
        Due.is("room for three", x.feed(3, 0, 0, 0, 0, 0), 120);
        Due.is("no room", x.feed(1, 0, 0, 0, 0, 0), FULL);
        Due.is("count(1)", x.count(1), 120);
        Due.is("text()", x.text(), -100);
        Due.is("the tape is empty", x.count(1), 0);
    }

    private static void fault(String text, int place) {
        SagaDesk x = new SagaDesk();
        Due.is("text() of " + text, Due.read(x, text), -100 - place);
        Due.is("no text of " + text, x.count(0), 0);
        Due.is("the tape behind " + text, x.count(1), 0);
    }

    private static void good(String text, int size) {
        SagaDesk x = Due.desk(text);
        Due.is("steps of " + text, x.shape(0, 0), size);
    }

    private static void faults() {
        fault("", 0);
        fault("   ", 3);
        fault("; mark", 0);
        fault("mark;", 5);
        fault("mark; ", 6);
        fault("mark;;mark", 5);
        fault("mark mark", 5);
        fault("mark|mark", 4);
        fault("mark}", 4);
        fault("mark!", 4);
        fault("5", 0);
        fault("a", 0);
        fault("add", 3);
        fault("add ", 4);
        fault("add g 5", 4);
        fault("add ab 5", 4);
        fault("add 5", 4);
        fault("add a", 5);
        fault("add a b 5", 6);
        fault("add a;mark", 5);
        fault("move a 5", 7);
        fault("move a b", 8);
        fault("swap a", 6);
        fault("swap a b 5", 9);
        fault("mark a", 5);
        fault("mark 5", 5);
        fault("adda 5", 0);
        fault("ad a 5", 0);
        fault("odd a 5", 0);
        fault("lake a 5", 0);
        fault("love a b 5", 0);
        fault("gold a 5", 0);
        fault("swat a b", 0);
        fault("park", 0);
        fault("marks", 0);
        fault("Add a 5", 0);
        fault("mark;jump a", 5);
        fault("add a 1000", 6);
        fault("add a 0000", 6);
        fault("add a 5 5", 8);
        fault("add a -5", 6);
        fault("mark\tmark", 4);
        fault("mark " + (char) 233, 5);
        fault("{mark}", 5);
        fault("{mark|}", 6);
        fault("{|mark}", 1);
        fault("{}", 1);
        fault("{mark|mark", 10);
        fault("{mark|mark ;", 12);
        fault("{mark|mark|mark|mark}", 15);
        fault("{mark;|mark}", 6);
        fault("{{{{mark|mark}|mark}|mark}|mark}", 3);
        fault("{!|mark}", 1);
        fault("{mark;!|mark}", 6);
        fault("{mark|!}", 6);
        fault("!;!", 2);
        fault("!;mark;!", 7);
        fault("!", 1);
        fault("! ", 2);
        fault("!;", 2);
        fault("! !", 2);
        fault("mark;mark;mark;mark;mark;mark;mark;mark;mark;mark;mark;mark;mark", 60);
        fault("mark;mark;mark;mark;mark;mark;mark;mark;mark;mark;mark;mark;add g", 60);
        fault("{mark;mark;mark;mark|mark;mark;mark;mark};{mark;mark|mark;mark; mark}", 64);
    }

    private static void tokens() {
        good("mark", 1);
        good(" \n mark \n", 1);
        good("add a5", 1);
        good("add\na\n005;mark", 2);
        good("move a a 5", 1);
        good("swap f f", 1);
        good("take a0;hold b 999", 2);
        good("{mark|mark}", 2);
        good("{ mark | mark | mark ; mark }", 4);
        good("{{{mark|mark}|mark}|{mark|{mark|mark}}}", 6);
        good("mark;!", 1);
        good("!;{mark|mark}", 2);
        good("mark;mark;mark;mark;mark;mark;mark;mark;mark;mark;mark;mark", 12);
        good("{{{mark|mark|mark}|{mark|mark|mark}}|{{mark|mark|mark}|{mark|mark|mark}}};!", 12);
    }

    private static void roomForTexts() {
        SagaDesk x = new SagaDesk();
        for (int i = 0; i < 6; i++) {
            Due.is("text()", Due.read(x, "mark;add a " + i), i);
            Due.is("a fault takes no room", i == 5 ? -100 : Due.read(x, "?"), -100);
        }
        Due.is("count(0)", x.count(0), 6);
        Due.feed(x, "mark");
        Due.is("a seventh", x.text(), FULL);
        Due.is("the tape stays", x.count(1), 4);
        Due.feed(x, "?");
        Due.is("FULL ahead of a fault", x.text(), FULL);
        Due.is("the tape stays", x.count(1), 5);
        Due.is("texts keep apart", x.step(3, 1, 3), 3);
    }

    private static void shape(String text, int steps, int chain, int wide, int clashes, int pivot) {
        SagaDesk x = Due.desk(text);
        Due.is("steps of " + text, x.shape(0, 0), steps);
        Due.is("chain of " + text, x.shape(0, 1), chain);
        Due.is("wide of " + text, x.shape(0, 2), wide);
        Due.is("clashes of " + text, x.shape(0, 3), clashes);
        Due.is("pivot of " + text, x.shape(0, 4), pivot);
    }

    private static void shapes() {
        shape("mark", 1, 1, 1, 0, NONE);
        shape("add a 1;take a 1;move a b 1", 3, 3, 1, 0, NONE);
        shape("!;mark", 1, 1, 1, 0, 0);
        shape("mark;!", 1, 1, 1, 0, 1);
        shape("{add a 1|take a 1};!;mark", 3, 2, 2, 1, 3);
        shape("{add a 1|move b a 1|swap c a}", 3, 1, 3, 3, NONE);
        shape("{mark|mark}", 2, 1, 2, 0, NONE);
        shape("{add a 1;add b 1;add c 1|hold b 5}", 4, 3, 2, 1, NONE);
        shape("{move a a 1|swap a a}", 2, 1, 2, 1, NONE);
        shape("{{add a 1|add b 1};add c 1|{add d 1|add a 1|add f 1}}", 6, 2, 5, 1, NONE);
        shape("{mark|mark};{mark|mark|mark};mark", 6, 3, 3, 0, NONE);
        SagaDesk x = Due.desk("mark");
        Due.is("shape(1, 0)", x.shape(1, 0), BAD);
        Due.is("shape(-1, 0)", x.shape(-1, 0), BAD);
        Due.is("shape(0, 6)", x.shape(0, 6), BAD);
        Due.is("shape(0, -1)", x.shape(0, -1), BAD);
    }

    private static void risks() {
        SagaDesk x = Due.desk("{take a 60|take a 60}", "mark;mark", "take a 101", "{take a 60|add a 60}",
            "take b 50;{take b 51|mark;take b 60|mark}");
        Due.is("either, not both", x.shape(0, 5), 2);
        Due.is("none", x.shape(1, 5), 0);
        Due.is("the empty set", x.shape(2, 5), 1);
        Due.is("none, by numbers", x.shape(3, 5), 0);
        // Behind {0}: all sets of {0} and 2, 4 have step 1 ahead: {0}, {0,2}, {0,4}, {0,2,4}.
        Due.is("four", x.shape(4, 5), 4);
        x.set(0, 50);
        Due.is("each fails at once; behind add, too, none", x.shape(0, 5), 1);
        // {}: take fails; {1}: 110, take doesn't.
        Due.is("take, unless add came", x.shape(3, 5), 1);
        x.set(0, 9999);
        // {}: add fails; {0}: 9939, add doesn't; {1}: it fails itself.
        Due.is("add, unless take came", x.shape(3, 5), 1);
        x.begin(0, 0);
        x.plan(0, 0, 0, 9);
        Due.is("without plans", x.shape(0, 5), 0);
        Due.is("nothing truly came", x.count(10), 9999);
    }

    private static void orders() {
        SagaDesk x = Due.desk("mark", "mark;mark;mark", "{mark|mark|mark}", "{mark;mark|mark;mark;mark}",
            "{mark|{mark|mark|mark};mark}",
            "{{{mark|mark|mark}|{mark|mark|mark}}|{{mark|mark|mark}|{mark|mark|mark}}};!");
        Due.is("one", x.orders(0), 1);
        Due.is("a chain", x.orders(1), 1);
        Due.is("three", x.orders(2), 6);
        Due.is("5 over 2", x.orders(3), 10);
        Due.is("5 * 6", x.orders(4), 30);
        Due.is("12!", x.orders(5), 479001600L);
        Due.is("again", x.orders(3), 10);
        Due.is("orders(6)", x.orders(6), -2L);
        Due.is("orders(-1)", x.orders(-1), -2L);
        Due.is("of none", new SagaDesk().orders(0), -2L);
    }

    private static void steps() {
        SagaDesk x = Due.desk("add a 1;{take b 20|move c d 300;hold e 0};swap f a;mark");
        int[][] due = {
            {0, 0, NONE, 1, 0, 0},
            {1, 1, NONE, 20, 1, 12},
            {2, 2, 3, 300, 1, 2},
            {3, 4, NONE, 0, 5, 2},
            {4, 5, 0, NONE, 15, 0},
            {5, NONE, NONE, NONE, 31, 0}};
        for (int i = 0; i < due.length; i++) {
            for (int what = 0; what < 6; what++) {
                Due.is("step(0, " + i + ", " + what + ")", x.step(0, i, what), due[i][what]);
            }
        }
        Due.is("step(1, 0, 0)", x.step(1, 0, 0), BAD);
        Due.is("step(-1, 0, 0)", x.step(-1, 0, 0), BAD);
        Due.is("step(0, 6, 0)", x.step(0, 6, 0), BAD);
        Due.is("step(0, -1, 0)", x.step(0, -1, 0), BAD);
        Due.is("step(0, 0, 6)", x.step(0, 0, 6), BAD);
        Due.is("step(0, 0, -1)", x.step(0, 0, -1), BAD);
        SagaDesk y = Due.desk("{mark|{mark;mark|mark};mark};!;{mark|mark|mark}");
        Due.is("ahead of a join", y.step(0, 4, 4), 14);
        Due.is("beside a join", y.step(0, 4, 5), 1);
        Due.is("beside a lone branch", y.step(0, 0, 5), 30);
        Due.is("within branches of branches", y.step(0, 2, 4), 2);
        Due.is("beside within", y.step(0, 3, 5), 7);
        Due.is("behind the pivot", y.step(0, 6, 4), 31);
        Due.is("beside behind the pivot", y.step(0, 6, 5), 160);
    }

    private static void kinds() {
        SagaDesk x = Due.desk("add a 1;take a 1;move a b 1;hold a 1;swap a b;mark");
        int[][] above = {{0}, {1, 0}, {2, 0}, {3, 1, 0}, {4, 2, 0}, {5, 0}};
        for (int i = 0; i < 6; i++) {
            for (int k = 0; k < 6; k++) {
                boolean under = false;
                for (int kind : above[i]) {
                    under |= kind == k;
                }
                Due.is("taken(0, " + i + ", " + k + ")", x.taken(0, i, k), under ? i : -13);
            }
        }
        Due.is("taken(1, 0, 0)", x.taken(1, 0, 0), BAD);
        Due.is("taken(0, 6, 0)", x.taken(0, 6, 0), BAD);
        Due.is("taken(0, -1, 0)", x.taken(0, -1, 0), BAD);
        Due.is("taken(0, 0, 6)", x.taken(0, 0, 6), BAD);
        Due.is("taken(0, 0, -1)", x.taken(0, 0, -1), BAD);
    }
}
