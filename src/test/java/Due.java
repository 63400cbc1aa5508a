import java.util.ArrayList;
import java.util.List;
import java.util.function.IntToLongFunction;
import java.util.function.Supplier;
import java.util.function.ToLongFunction;

/** Counts answers that aren't due, and makes desks with texts. */
final class Due {
    private static int wrong = 0;

    private Due() {
    }

    static void is(String call, long got, long want) {
        if (got != want) {
            wrong++;
            System.out.println(call + " answered " + got + ", due is " + want);
        }
    }

    static void holds(String what, boolean so) {
        is(what, so ? 1 : 0, 1);
    }

    static void end() {
        if (wrong != 0) {
            System.out.println(wrong + " answers are not as due");
            System.exit(1);
        }
    }

    /** Just inside of a range there is no such refusal; just outside, and far outside, there is. */
    static void edges(String call, int least, int most, int refusal, IntToLongFunction ask) {
        int[] outside = {least - 1, most + 1, Integer.MIN_VALUE, Integer.MAX_VALUE};
        for (int v : outside) {
            is(call + " by " + v, ask.applyAsLong(v), refusal);
        }
        int[] inside = {least, most};
        for (int v : inside) {
            holds(call + " by " + v + " is not refused", ask.applyAsLong(v) != refusal);
        }
    }

    /** Each call is refused on a desk of its own, and changes nothing. */
    @SafeVarargs
    static void refused(String what, int refusal, Supplier<SagaDesk> maker, ToLongFunction<SagaDesk>... calls) {
        for (int i = 0; i < calls.length; i++) {
            SagaDesk desk = maker.get();
            List<Long> before = state(desk);
            is(what + ", call " + i, calls[i].applyAsLong(desk), refusal);
            List<Long> after = state(desk);
            holds(what + ", call " + i + " changes nothing\n" + before + "\n" + after, before.equals(after));
        }
    }

    /** What can be asked of a desk, but for the items of sheets and the bytes of the tape: some 100 calls. */
    static List<Long> state(SagaDesk desk) {
        List<Long> all = new ArrayList<>();
        for (int what = 0; what < 16; what++) {
            all.add((long) desk.count(what));
        }
        for (int s = 0; s < 3; s++) {
            for (int what = 0; what < 8; what++) {
                all.add((long) desk.told(s, what));
            }
            int text = desk.told(s, 1);
            for (int i = 0; text >= 0 && i < desk.shape(text, 0); i++) {
                all.add((long) desk.why(s, i));
                all.add(planOf(desk, s, i, 0));
                all.add(planOf(desk, s, i, 1));
            }
        }
        int lines = desk.count(2);
        for (int k = Math.max(0, lines - 4); k < lines; k++) {
            for (int what = 0; what < 3; what++) {
                all.add((long) desk.line(k, what));
            }
        }
        for (int sheet = 0; sheet < 4; sheet++) {
            all.add(sizeOf(desk, sheet));
            all.add((long) Math.min(0, desk.copy(sheet, 0, (sheet + 1) % 4, 0, 0)));
        }
        return all;
    }

    private static long planOf(SagaDesk desk, int saga, int step, int of) {
        int plan = desk.plan(saga, step, of, 0);
        desk.plan(saga, step, of, plan);
        return plan;
    }

    /** How many items a sheet has, by copies of none; -11, if it is missing. */
    static long sizeOf(SagaDesk desk, int sheet) {
        if (desk.copy(sheet, 0, sheet, 0, 0) != 0) {
            return desk.copy(sheet, 0, sheet, 0, 0);
        }
        int least = 0;
        int most = 41;
        while (most - least > 1) {
            int middle = (least + most) / 2;
            if (desk.copy(sheet, middle - 1, sheet, middle - 1, 1) == 1) {
                least = middle;
            } else {
                most = middle;
            }
        }
        return least;
    }

    /** Feeds all of a text, five bytes at a time: the last answer of feed(). */
    static int feed(SagaDesk desk, String text) {
        int answer = 0;
        for (int i = 0; i < text.length(); i += 5) {
            int n = Math.min(5, text.length() - i);
            int[] b = new int[5];
            for (int j = 0; j < n; j++) {
                b[j] = text.charAt(i + j);
            }
            answer = desk.feed(n, b[0], b[1], b[2], b[3], b[4]);
        }
        return answer;
    }

    /** The answer of text() to this text. */
    static int read(SagaDesk desk, String text) {
        feed(desk, text);
        return desk.text();
    }

    static SagaDesk desk(String... texts) {
        SagaDesk desk = new SagaDesk();
        for (int i = 0; i < texts.length; i++) {
            is("text() of " + texts[i], read(desk, texts[i]), i);
        }
        return desk;
    }

    static void ticks(SagaDesk desk, int n) {
        for (int i = 0; i < n; i++) {
            desk.tick();
        }
    }

    /** One line of the log as one number: what it is, its saga and its thing. */
    static void line(SagaDesk desk, int k, int event, int owner, int thing) {
        is("line(" + k + ", 0)", desk.line(k, 0), event);
        is("line(" + k + ", 1)", desk.line(k, 1), owner);
        is("line(" + k + ", 2)", desk.line(k, 2), thing);
    }
}
