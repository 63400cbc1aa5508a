/** Counts answers that aren't due, and makes desks with texts. */
final class Due {
    private static int wrong = 0;

    private Due() {
    }

    static void is(String call, long got, long want) {
        if (got != want) {
            wrong++;
            System.out.println(call + " answered " + got + ", due is " + want);
        }
    }

    static void holds(String what, boolean so) {
        is(what, so ? 1 : 0, 1);
    }

    static void end() {
        if (wrong != 0) {
            System.out.println(wrong + " answers are not as due");
            System.exit(1);
        }
    }

    /** Feeds all of a text, five bytes at a time: the last answer of feed(). */
    static int feed(SagaDesk desk, String text) {
        int answer = 0;
        for (int i = 0; i < text.length(); i += 5) {
            int n = Math.min(5, text.length() - i);
            int[] b = new int[5];
            for (int j = 0; j < n; j++) {
                b[j] = text.charAt(i + j);
            }
            answer = desk.feed(n, b[0], b[1], b[2], b[3], b[4]);
        }
        return answer;
    }

    /** The answer of text() to this text. */
    static int read(SagaDesk desk, String text) {
        feed(desk, text);
        return desk.text();
    }

    static SagaDesk desk(String... texts) {
        SagaDesk desk = new SagaDesk();
        for (int i = 0; i < texts.length; i++) {
            is("text() of " + texts[i], read(desk, texts[i]), i);
        }
        return desk;
    }

    static void ticks(SagaDesk desk, int n) {
        for (int i = 0; i < n; i++) {
            desk.tick();
        }
    }

    /** One line of the log as one number: what it is, its saga and its thing. */
    static void line(SagaDesk desk, int k, int event, int owner, int thing) {
        is("line(" + k + ", 0)", desk.line(k, 0), event);
        is("line(" + k + ", 1)", desk.line(k, 1), owner);
        is("line(" + k + ", 2)", desk.line(k, 2), thing);
    }
}
