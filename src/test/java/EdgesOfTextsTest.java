import java.util.function.Supplier;

/** The edges of promises 2 to 7: feed, text, shape, orders, step, taken. */
final class EdgesOfTextsTest {
    private static final int BAD = SagaDesk.BAD, FULL = SagaDesk.FULL, NONE = SagaDesk.NONE, UNLIKE = -13;
    private static final String TWELVE = "mark;mark;mark;mark;mark;mark;mark;mark;mark;mark;mark;mark";

    public static void main(String[] args) {
        feedTakesOneToFiveBytes();
        feedLooksAtBytesThatAreNotAsked();
        theTapeHas120Bytes();
        feedIsBadAheadOfFull();
        theTapeKeepsItsBytes();
        aFullTapeIsRead();
        tokensAreAsLongAsCanBe();
        numbersHaveThreeDigits();
        onlyTwoBytesAreBlanks();
        bytesThatBeginNoToken();
        aTextThatEndsTooEarly();
        aTextWithoutAStep();
        wordsThatAreNone();
        branchesAreTwoOrThree();
        threeMayBeOpen();
        thePivotStandsAlone();
        stepsAreTwelve();
        tokensThatCantStandThere();
        theFirstFaultCounts();
        textsAreSix();
        textIsFullAheadOfAll();
        aFaultEmptiesTheTape();
        aFaultLeavesNothing();
        shapeIsRefused();
        shapeOfTheLeastAndTheMost();
        chainAndWide();
        thePivotsSteps();
        clashesAtTheirEdges();
        riskyAtItsEdges();
        ordersAreRefused();
        ordersAtTheirEdges();
        stepIsRefused();
        stepAtItsEdges();
        takenIsRefused();
        takenAtItsEdges();
        refusalsChangeNothing();
        Due.end();
    }

    // ---- promise 2: feed

    // "n bytes (1 .. 5)"
    private static void feedTakesOneToFiveBytes() {
        Due.edges("feed", 1, 5, BAD, n -> new SagaDesk().feed(n, 1, 2, 3, 4, 5));
        SagaDesk x = new SagaDesk();
        Due.is("one", x.feed(1, 1, 2, 3, 4, 5), 1);
        Due.is("five", x.feed(5, 1, 2, 3, 4, 5), 6);
    }

    // "a, b, .. (all 0 .. 255, also those that are not asked)"
    private static void feedLooksAtBytesThatAreNotAsked() {
        for (int n = 1; n <= 5; n++) {
            int asked = n;
            Due.edges("a of " + n, 0, 255, BAD, v -> new SagaDesk().feed(asked, v, 0, 0, 0, 0));
            Due.edges("b of " + n, 0, 255, BAD, v -> new SagaDesk().feed(asked, 0, v, 0, 0, 0));
            Due.edges("c of " + n, 0, 255, BAD, v -> new SagaDesk().feed(asked, 0, 0, v, 0, 0));
            Due.edges("d of " + n, 0, 255, BAD, v -> new SagaDesk().feed(asked, 0, 0, 0, v, 0));
            Due.edges("e of " + n, 0, 255, BAD, v -> new SagaDesk().feed(asked, 0, 0, 0, 0, v));
        }
    }

    private static SagaDesk tapeOf(int n) {
        SagaDesk desk = new SagaDesk();
        for (int i = 0; i < n; i++) {
            desk.feed(1, ' ', 0, 0, 0, 0);
        }
        return desk;
    }

    // "THE TAPE (120 bytes at most)", "FULL: they have no room"
    private static void theTapeHas120Bytes() {
        for (int n = 1; n <= 5; n++) {
            SagaDesk x = tapeOf(120 - n);
            Due.is(n + " fit just", x.feed(n, 1, 2, 3, 4, 5), 120);
            Due.is("no more do", x.feed(1, 1, 2, 3, 4, 5), FULL);
            Due.is("120 stay", x.count(1), 120);
            SagaDesk y = tapeOf(121 - n);
            Due.is(n + " just don't fit", y.feed(n, 1, 2, 3, 4, 5), FULL);
            Due.is("none of them came", y.count(1), 121 - n);
        }
    }

    private static void feedIsBadAheadOfFull() {
        SagaDesk x = tapeOf(120);
        Due.is("n of 0", x.feed(0, 0, 0, 0, 0, 0), BAD);
        Due.is("n of 6", x.feed(6, 0, 0, 0, 0, 0), BAD);
        Due.is("a byte of 256, asked", x.feed(1, 256, 0, 0, 0, 0), BAD);
        Due.is("a byte of -1, not asked", x.feed(1, 0, 0, 0, 0, -1), BAD);
        Due.is("all good, no room", x.feed(1, 0, 0, 0, 0, 0), FULL);
    }

    /** Refused bytes leave no trace: what is read is what came before and after. */
    private static void theTapeKeepsItsBytes() {
        SagaDesk x = new SagaDesk();
        x.feed(3, 'a', 'd', 'd', '?', '?');
        x.feed(5, '?', '?', '?', '?', 256);
        x.feed(0, '?', '?', '?', '?', '?');
        x.feed(3, ' ', 'b', '7', '?', '?');
        Due.is("text()", x.text(), 0);
        Due.is("its account", x.step(0, 0, 1), 1);
        Due.is("its number", x.step(0, 0, 3), 7);
    }

    // ---- promise 3: text

    private static void fault(String text, int place) {
        SagaDesk x = new SagaDesk();
        Due.is("text() of " + text, Due.read(x, text), -100 - place);
        Due.is("no text of " + text, x.count(0), 0);
        Due.is("the tape is empty behind " + text, x.count(1), 0);
    }

    private static void good(String text, int steps) {
        SagaDesk x = new SagaDesk();
        Due.is("text() of " + text, Due.read(x, text), 0);
        Due.is("steps of " + text, x.shape(0, 0), steps);
        Due.is("the tape is empty behind " + text, x.count(1), 0);
    }

    private static String blanks(int n) {
        return " ".repeat(n);
    }

    private static void aFullTapeIsRead() {
        good(blanks(116) + "mark", 1);
        good("mark" + blanks(116), 1);
        fault(blanks(117) + "mar", 117);
        fault(blanks(119) + "?", 119);
        fault(blanks(115) + "mark;", 120);
        fault(blanks(120), 120);
    }

    // "TOKENS, each as long as can be"
    private static void tokensAreAsLongAsCanBe() {
        good("add a5", 1);
        fault("adda 5", 0);
        fault("movea b 5", 0);
        fault("move ab 5", 5);
        good("move a b5", 1);
        fault("mark5", 4);
        fault("markmark", 0);
        fault("add a 5mark", 7);
        good("add a 5;mark", 2);
        good("{mark|mark}", 2);
        fault("add a 1 0", 8);
        good("add a 10", 1);
    }

    // "NUMBERS (as many digits as stand there; more than 3 are too long)"
    private static void numbersHaveThreeDigits() {
        good("add a 9", 1);
        good("add a 99", 1);
        good("add a 999", 1);
        good("add a 000", 1);
        fault("add a 1000", 6);
        fault("add a 0000", 6);
        fault("add a 0001", 6);
        fault("mark;add a 99999999999999999999", 11);
        fault("add 1000", 4);
        fault("1000", 0);
    }

    // "blanks (32, 10) may stand between"
    private static void onlyTwoBytesAreBlanks() {
        fault("\n \n", 3);
        good(" mark\n;\n\n mark ", 2);
        int[] others = {0, 9, 11, 12, 13, 31, 127, 160, 255};
        for (int b : others) {
            fault("mark" + (char) b, 4);
            fault((char) b + "mark", 0);
        }
    }

    // "also of a byte that begins none": the neighbours of letters, digits and signs
    private static void bytesThatBeginNoToken() {
        for (int b = 0; b < 256; b++) {
            boolean begins = b >= 'a' && b <= 'z' || b >= '0' && b <= '9' || b == ';' || b == '{' || b == '|'
                || b == '}' || b == '!' || b == ' ' || b == '\n';
            if (!begins) {
                fault("mark;" + (char) b, 5);
                fault("add " + (char) b, 4);
                fault("add a " + (char) b, 6);
                fault("{mark" + (char) b, 5);
            }
        }
        fault("mar" + (char) ('a' - 1), 0);
        fault("add a 1/", 7);
        fault("add a 1:", 7);
    }

    // "(the text's size, if it ends too early)"
    private static void aTextThatEndsTooEarly() {
        fault("add", 3);
        fault("add a", 5);
        fault("add a ", 6);
        fault("move a", 6);
        fault("move a b", 8);
        fault("swap a", 6);
        fault("hold", 4);
        fault("take b\n\n", 8);
        fault("mark;", 5);
        fault("mark ; ", 7);
        fault("{", 1);
        fault("{mark", 5);
        fault("{mark|", 6);
        fault("{mark|mark", 10);
        fault("{mark|mark|mark", 15);
        fault("{{mark|mark}|mark", 17);
        fault("!;", 2);
        good("mark", 1);
        good("{mark|mark}", 2);
    }

    // "A TEXT without a STEP has its FAULT at its end."
    private static void aTextWithoutAStep() {
        fault("", 0);
        fault(" ", 1);
        fault("!", 1);
        fault("! ", 2);
        fault(" ! \n", 4);
        good("!;mark", 1);
        good("mark;!", 1);
    }

    // "a WORD that is none of these"
    private static void wordsThatAreNone() {
        String[] words = {"add", "take", "move", "hold", "swap", "mark"};
        String[] behind = {" a 1", " a 1", " a b 1", " a 1", " a b", ""};
        for (int i = 0; i < words.length; i++) {
            String word = words[i];
            good(word + behind[i], 1);
            fault(word + "s" + behind[i], 0);
            fault(word.substring(1) + behind[i], 0);
            fault(word.substring(0, word.length() - 1) + behind[i], 0);
            fault(word.toUpperCase() + behind[i], 0);
            fault("mark;x" + word + behind[i], 5);
            for (int j = 0; j < word.length(); j++) {
                char other = word.charAt(j) == 'z' ? 'y' : (char) (word.charAt(j) + 1);
                fault(word.substring(0, j) + other + word.substring(j + 1) + behind[i], 0);
            }
        }
        fault("a", 0);
        fault("f 1", 0);
    }

    // "{ LINE | LINE } or { LINE | LINE | LINE }"
    private static void branchesAreTwoOrThree() {
        fault("{mark}", 5);
        good("{mark|mark}", 2);
        good("{mark|mark|mark}", 3);
        fault("{mark|mark|mark|mark}", 15);
        fault("{}", 1);
        fault("{|mark}", 1);
        fault("{mark|}", 6);
        fault("{mark||mark}", 6);
        fault("{mark|mark|}", 11);
        fault("mark|mark", 4);
        fault("mark}", 4);
        fault("{mark|mark}}", 11);
        fault("{mark|mark}mark", 11);
        fault("mark{mark|mark}", 4);
    }

    // "a { while 3 of these are open"
    private static void threeMayBeOpen() {
        good("{{{mark|mark}|mark}|mark}", 4);
        fault("{{{{mark|mark}|mark}|mark}|mark}", 3);
        fault("{mark|{mark|{mark|{mark|mark}}}}", 18);
        fault("{ { {\n{", 6);
        good("{{{mark|mark};{mark|mark}|mark}|mark}", 6);
        good("{mark|{mark|{mark|mark}}};{mark|{mark|{mark|mark}}}", 8);
    }

    // "a ! within BRANCHES or behind another one"
    private static void thePivotStandsAlone() {
        fault("{!|mark}", 1);
        fault("{mark;!|mark}", 6);
        fault("{mark|!}", 6);
        fault("{mark|mark;!}", 11);
        fault("{{mark|!}|mark}", 7);
        good("{mark|mark};!", 2);
        good("!;{mark|mark}", 2);
        fault("!;!", 2);
        fault("!;mark;!", 7);
        fault("mark;!;mark;!", 12);
        fault("!;{mark|!}", 8);
        fault("!!", 1);
        fault("mark!", 4);
        fault("!mark", 1);
    }

    // "a 13th STEP"
    private static void stepsAreTwelve() {
        good(TWELVE, 12);
        good(TWELVE + ";!", 12);
        fault(TWELVE + ";mark", 60);
        fault(TWELVE + "; mark", 61);
        fault(TWELVE + ";add g", 60);
        fault(TWELVE + ";{mark|mark}", 61);
        fault(TWELVE + ";", 60);
        good("{mark|mark|mark};{mark|mark|mark};{mark|mark|mark};{mark|mark|mark}", 12);
        fault("{mark|mark|mark};{mark|mark|mark};{mark|mark|mark};{mark|mark|mark;mark}", 67);
    }

    /** Behind each start, all sorts of tokens but those that can stand there. */
    private static void tokensThatCantStandThere() {
        String[] tokens = {"add", "b", "g", "7", ";", "{", "|", "}", "!", "?"};
        String[] starts = {"", "add ", "add a ", "add a 7 ", "move a ", "move a b ", "swap a b ", "mark ", "mark; ",
            "! ", "!; ", "{ ", "{ mark ", "{ mark| ", "{ mark|mark ", "{ mark|mark| ", "{ mark|mark|mark ",
            "{ mark|mark} ", "{ mark; "};
        String[] standing = {"add { !", "b", "7", ";", "b", "7", ";", ";", "add { !",
            ";", "add {", "add {", "; |", "add {", "; | }", "add {", "; }",
            ";", "add {"};
        for (int i = 0; i < starts.length; i++) {
            for (String token : tokens) {
                boolean canStand = (" " + standing[i] + " ").contains(" " + token + " ");
                SagaDesk x = new SagaDesk();
                int answer = Due.read(x, starts[i] + token);
                Due.is("a fault of " + token + " behind " + starts[i], answer == -100 - starts[i].length() ? 1 : 0,
                    canStand ? 0 : 1);
            }
        }
    }

    // "the place of the first byte of the first TOKEN that can't stand there"
    private static void theFirstFaultCounts() {
        fault("mark ?; jump", 5);
        fault("jump; add g", 0);
        fault("add g 1000", 4);
        fault("  \n jump", 4);
        fault("mark;\n  1000;?", 8);
    }

    // "There are 6 TEXTS at most.", "its number (from 0)"
    private static void textsAreSix() {
        SagaDesk x = new SagaDesk();
        for (int i = 0; i < 6; i++) {
            Due.is("a fault takes no room", Due.read(x, "mark;"), -105);
            Due.is("text " + i, Due.read(x, "add a " + i), i);
            Due.is("texts", x.count(0), i + 1);
        }
        Due.is("a seventh", Due.read(x, "mark"), FULL);
        Due.is("six", x.count(0), 6);
        for (int i = 0; i < 6; i++) {
            Due.is("text " + i + " is as it was", x.step(i, 0, 3), i);
        }
    }

    // "FULL (ahead of all): no TEXT more has room (THE TAPE stays)"
    private static void textIsFullAheadOfAll() {
        SagaDesk x = Due.desk("mark", "mark", "mark", "mark", "mark", "mark");
        Due.is("ahead of a fault of no bytes", x.text(), FULL);
        Due.feed(x, "?");
        Due.is("ahead of any fault", x.text(), FULL);
        Due.is("the tape stays", x.count(1), 1);
        Due.is("bytes come behind it", Due.feed(x, "mark"), 5);
        Due.is("FULL", x.text(), FULL);
        Due.is("the tape stays", x.count(1), 5);
    }

    // "THE TAPE, which is empty then (by a FAULT, too)"
    private static void aFaultEmptiesTheTape() {
        SagaDesk x = new SagaDesk();
        Due.is("a fault", Due.read(x, "mark;add"), -108);
        Due.is("empty", x.count(1), 0);
        Due.is("what comes then stands alone", Due.read(x, "mark"), 0);
        Due.is("empty", x.count(1), 0);
        Due.is("nothing is left to read", x.text(), -100);
        Due.is("one step", x.shape(0, 0), 1);
        SagaDesk y = tapeOf(120);
        Due.is("a full one", y.text(), -220);
        Due.is("has all its room again", y.feed(5, 'm', 'a', 'r', 'k', ' '), 5);
    }

    private static void aFaultLeavesNothing() {
        SagaDesk x = new SagaDesk();
        Due.is("a fault behind a pivot", Due.read(x, "mark;!;{mark|mark|take"), -122);
        Due.is("text()", Due.read(x, "mark;mark"), 0);
        Due.is("two steps", x.shape(0, 0), 2);
        Due.is("no pivot", x.shape(0, 4), NONE);
        Due.is("a fault behind a pivot", Due.read(x, "!;jump"), -102);
        Due.is("a pivot is the first one", Due.read(x, "mark;!"), 1);
        Due.is("what is ahead of it", x.shape(1, 4), 1);
        Due.is("the texts are two", x.count(0), 2);
    }

    // ---- promise 4: shape

    private static void shapeIsRefused() {
        SagaDesk x = Due.desk("mark", "mark");
        for (int what = 0; what <= 5; what++) {
            int asked = what;
            Due.edges("shape(text, " + what + ")", 0, 1, BAD, text -> x.shape(text, asked));
            Due.is("of none", new SagaDesk().shape(0, what), BAD);
        }
        Due.edges("shape(1, what)", 0, 5, BAD, what -> x.shape(1, what));
    }

    private static void shapeOfTheLeastAndTheMost() {
        SagaDesk x = Due.desk("mark", TWELVE,
            "{{{mark|mark|mark}|{mark|mark|mark}}|{{mark|mark|mark}|{mark|mark|mark}}}");
        int[][] due = {{1, 1, 1, 0, NONE, 0}, {12, 12, 1, 0, NONE, 0}, {12, 1, 12, 0, NONE, 0}};
        for (int text = 0; text < 3; text++) {
            for (int what = 0; what < 6; what++) {
                Due.is("shape(" + text + ", " + what + ")", x.shape(text, what), due[text][what]);
            }
        }
    }

    // "how many STEPS, at most, stand one AHEAD of another", "any two of which are BESIDE one another"
    private static void chainAndWide() {
        SagaDesk x = Due.desk("mark;{mark|mark}", "mark;mark;{mark|mark|mark};mark", "{mark;mark|mark};{mark|mark|mark}",
            "{mark;{mark|mark}|mark;mark;mark}", "{mark|mark};!;mark", "{{mark;mark|mark}|mark;mark;mark;mark|mark}");
        int[] chain = {2, 4, 3, 3, 2, 4};
        int[] wide = {2, 3, 3, 3, 2, 4};
        for (int text = 0; text < 6; text++) {
            Due.is("chain of " + text, x.shape(text, 1), chain[text]);
            Due.is("wide of " + text, x.shape(text, 2), wide[text]);
        }
    }

    // "STEPS ahead of THE PIVOT (4; bits; NONE: there is none)"
    private static void thePivotsSteps() {
        SagaDesk x = Due.desk("!;mark", "mark;!", "mark", TWELVE + ";!", "{mark|mark};!;mark");
        int[] due = {0, 1, NONE, 4095, 3};
        for (int text = 0; text < 5; text++) {
            Due.is("shape(" + text + ", 4)", x.shape(text, 4), due[text]);
        }
    }

    // "how many twos of STEPS BESIDE one another have an ACCOUNT in common"
    private static void clashesAtTheirEdges() {
        SagaDesk x = Due.desk("{mark|mark}", "add a 1;take a 1", "{add a 1|take b 1}", "{move a b 1|swap b a}",
            "{move a a 1|hold a 1}", "{move a b 1|move c d 1|swap b c}");
        int[] due = {0, 0, 0, 1, 1, 2};
        for (int text = 0; text < 6; text++) {
            Due.is("clashes of " + text, x.shape(text, 3), due[text]);
        }
        SagaDesk y = Due.desk("{{{add a 1|add a 1|add a 1}|{add a 1|add a 1|add a 1}}|{add a 1|add a 1|add a 1}}");
        Due.is("all twos of nine", y.shape(0, 3), 36);
    }

    // "RISKY: how many CLOSED sets there are whose STEPS .. don't FAIL, but behind which one .. would"
    private static void riskyAtItsEdges() {
        SagaDesk x = Due.desk("take a 100", "take a 101", "take a 101;mark", "mark;take a 101", "{take a 50|take a 51}",
            "{add a 1|take a 101}");
        SagaDesk z = Due.desk("mark;mark;mark;take a 101", "mark;{mark|mark};take a 101;mark", "take a 101;!;take a 101");
        Due.is("all but the last are in it", z.shape(0, 5), 1);
        Due.is("what could come next is behind a join", z.shape(1, 5), 1);
        Due.is("what could not come next does not count", z.shape(2, 5), 1);
        Due.is("no MARK truly came", z.count(5), 0);
        SagaDesk h = Due.desk("{hold a 60|hold a 60};mark");
        Due.is("either of two", h.shape(0, 5), 2);
        Due.is("nothing is truly HELD", h.count(4), 0);
        int[] due = {0, 1, 1, 1, 2, 1};
        for (int text = 0; text < 6; text++) {
            Due.is("risky of " + text, x.shape(text, 5), due[text]);
        }
        x.set(0, 99);
        Due.is("as it is now", x.shape(0, 5), 1);
        x.set(0, 9999);
        // {}: 0 fails; {1}: none fails; {0}: it fails itself.
        Due.is("HIGH counts as LOW does", x.shape(5, 5), 1);
        Due.is("nothing truly came", x.count(10), 9999);
        SagaDesk y = Due.desk("mark;take a 60", "take a 60");
        y.begin(0, 0);
        y.plan(0, 0, 0, 9);
        Due.is("without PLANS", y.shape(0, 5), 0);
        y.begin(1, 1);
        y.tick();
        Due.is("from all as it is now, anew", y.shape(0, 5), 1);
        Due.is("of a text that is done, too", y.shape(1, 5), 1);
    }

    // ---- promise 5: orders

    private static void ordersAreRefused() {
        SagaDesk x = Due.desk("mark", "mark");
        Due.edges("orders", 0, 1, BAD, x::orders);
        Due.is("of none", new SagaDesk().orders(0), -2L);
    }

    private static void ordersAtTheirEdges() {
        SagaDesk x = Due.desk("mark", TWELVE, "{mark|mark}",
            "{{{mark|mark|mark}|{mark|mark|mark}}|{{mark|mark|mark}|{mark|mark|mark}}}",
            "{mark;mark;mark;mark;mark;mark|mark;mark;mark;mark;mark;mark}");
        long[] due = {1, 1, 2, 479001600L, 924};
        for (int text = 0; text < 5; text++) {
            Due.is("orders of " + text, x.orders(text), due[text]);
        }
    }

    // ---- promise 6: step

    private static void stepIsRefused() {
        SagaDesk x = Due.desk("mark", "mark;mark;mark");
        for (int what = 0; what <= 5; what++) {
            int asked = what;
            Due.edges("step(text, 0, " + what + ")", 0, 1, BAD, text -> x.step(text, 0, asked));
            Due.edges("step(0, step, " + what + ")", 0, 0, BAD, step -> x.step(0, step, asked));
            Due.edges("step(1, step, " + what + ")", 0, 2, BAD, step -> x.step(1, step, asked));
            Due.is("of none", new SagaDesk().step(0, 0, what), BAD);
        }
        Due.edges("step(1, 2, what)", 0, 5, BAD, what -> x.step(1, 2, what));
    }

    // "the first ACCOUNT (1; NONE), the second (2; NONE), NUMBER (3; NONE), AHEAD (4; bits), BESIDE (5; bits)"
    private static void stepAtItsEdges() {
        SagaDesk x = Due.desk("move f a 0", "mark", "swap a f", TWELVE,
            "{{{mark|mark|mark}|{mark|mark|mark}}|{{mark|mark|mark}|{mark|mark|mark}}}");
        int[][] due = {{2, 5, 0, 0, 0, 0}, {5, NONE, NONE, NONE, 0, 0}, {4, 0, 5, NONE, 0, 0}};
        for (int text = 0; text < 3; text++) {
            for (int what = 0; what < 6; what++) {
                Due.is("step(" + text + ", 0, " + what + ")", x.step(text, 0, what), due[text][what]);
            }
        }
        SagaDesk y = Due.desk("mark;{mark;mark|mark;{mark;mark|mark};mark};mark");
        int[] ahead = {0, 1, 3, 1, 9, 25, 9, 121, 255};
        int[] beside = {0, 248, 248, 6, 70, 70, 54, 6, 0};
        for (int i = 0; i < 9; i++) {
            Due.is("ahead of " + i + ", in the lines around, too", y.step(0, i, 4), ahead[i]);
            Due.is("beside " + i, y.step(0, i, 5), beside[i]);
        }
        Due.is("all are ahead of the last", x.step(3, 11, 4), 2047);
        Due.is("none is beside it", x.step(3, 11, 5), 0);
        Due.is("all are beside the first", x.step(4, 0, 5), 4094);
        Due.is("none is ahead of the last", x.step(4, 11, 4), 0);
        Due.is("all but it are beside it", x.step(4, 11, 5), 2047);
    }

    // ---- promise 7: taken

    private static void takenIsRefused() {
        SagaDesk x = Due.desk("mark", "mark;add a 1;hold a 1");
        Due.edges("taken(text, 0, 0)", 0, 1, BAD, text -> x.taken(text, 0, 0));
        Due.edges("taken(1, step, 0)", 0, 2, BAD, step -> x.taken(1, step, 0));
        Due.edges("taken(1, 2, k)", 0, 5, BAD, k -> x.taken(1, 2, k));
        Due.is("BAD ahead of -13", x.taken(1, 3, 1), BAD);
        Due.is("of none", new SagaDesk().taken(0, 0, 0), BAD);
    }

    // "of KIND k (0 .. 5), or one under that one (also by others between): its KIND .. -13"
    private static void takenAtItsEdges() {
        SagaDesk x = Due.desk("add a 1;take a 1;move a b 1;hold a 1;swap a b;mark");
        int[][] due = {
            {0, UNLIKE, UNLIKE, UNLIKE, UNLIKE, UNLIKE},
            {1, 1, UNLIKE, UNLIKE, UNLIKE, UNLIKE},
            {2, UNLIKE, 2, UNLIKE, UNLIKE, UNLIKE},
            {3, 3, UNLIKE, 3, UNLIKE, UNLIKE},
            {4, UNLIKE, 4, UNLIKE, 4, UNLIKE},
            {5, UNLIKE, UNLIKE, UNLIKE, UNLIKE, 5}};
        for (int step = 0; step < 6; step++) {
            for (int k = 0; k < 6; k++) {
                Due.is("taken(0, " + step + ", " + k + ")", x.taken(0, step, k), due[step][k]);
            }
        }
    }

    private static void refusalsChangeNothing() {
        Supplier<SagaDesk> maker = () -> {
            SagaDesk desk = Due.desk("mark;add a 1", "mark");
            Due.feed(desk, "ma");
            desk.begin(0, 0);
            return desk;
        };
        Due.refused("texts, BAD", BAD, maker, x -> x.feed(0, 0, 0, 0, 0, 0), x -> x.feed(1, 256, 0, 0, 0, 0),
            x -> x.shape(2, 0), x -> x.shape(0, 6), x -> x.orders(2), x -> x.step(0, 2, 0), x -> x.step(0, 0, 6),
            x -> x.taken(0, 0, 6), x -> x.taken(2, 0, 0));
        Due.refused("texts, -13", UNLIKE, maker, x -> x.taken(0, 0, 1));
        Due.refused("texts, FULL", FULL, () -> {
            SagaDesk desk = Due.desk("mark", "mark", "mark", "mark", "mark", "mark");
            for (int i = 0; i < 24; i++) {
                desk.feed(5, ' ', ' ', ' ', ' ', ' ');
            }
            return desk;
        }, x -> x.text(), x -> x.feed(1, ' ', 0, 0, 0, 0));
    }
}
