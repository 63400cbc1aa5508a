/** Drawn runs of calls on the program and on Model: every answer is the same. */
final class ModelTest {
    private static final int CALLS = 512;
    private static long z;

    private SagaDesk desk = new SagaDesk();
    private Model model = new Model();
    private final StringBuilder calls = new StringBuilder();
    private int made = 0;
    private String toFeed = "";

    public static void main(String[] args) {
        int runs = args.length > 0 ? Integer.parseInt(args[0]) : 150;
        int wrong = 0;
        for (int run = 0; run < runs && wrong < 3; run++) {
            z = run * 7919L + 17;
            wrong += new ModelTest().run(run) ? 0 : 1;
        }
        if (wrong > 0) {
            System.exit(1);
        }
    }

    private static int draw(int n) {
        z = z * 6364136223846793005L + 1442695040888963407L;
        return (int) ((z >>> 33) % n);
    }

    /** Mostly within, at times beside it or far off. */
    private static int near(int least, int most) {
        int way = draw(40);
        if (way == 0) {
            return least - 1;
        }
        if (way == 1) {
            return most + 1;
        }
        if (way == 2) {
            return draw(2) == 0 ? Integer.MIN_VALUE + draw(3) : Integer.MAX_VALUE - draw(3);
        }
        return least + draw(most - least + 1);
    }

    private boolean same(String call, long got, long due) {
        made++;
        calls.append(call).append(" = ").append(got).append('\n');
        if (got != due) {
            System.out.println(calls + "due is " + due);
            return false;
        }
        return true;
    }

    private boolean run(int run) {
        boolean good = true;
        for (int i = 0; i < 8 && good; i++) {
            good = feedAll() && (made >= CALLS || textCall());
        }
        while (good && made < CALLS) {
            good = oneCall(run);
        }
        return good;
    }

    private boolean oneCall(int run) {
        int way = draw(100);
        if (way < 5) {
            return feedCall() && (!toFeed.isEmpty() || made >= CALLS || textCall());
        }
        if (way < 35) {
            return tickCall(run);
        }
        if (way < 55) {
            return sagaCall();
        }
        if (way < 65) {
            return logCall();
        }
        if (way < 80) {
            return thoughtCall();
        }
        return way < 90 ? askCall() : sheetCall();
    }

    // ---- texts

    private static String number() {
        int[] some = {0, 1, 3, 5, 10, 19, 20, 50, 99, 100, 101, 150, 300, 999};
        return String.valueOf(some[draw(some.length)]);
    }

    private static String account() {
        return String.valueOf((char) ('a' + draw(draw(2) == 0 ? 2 : 6)));
    }

    private static String step() {
        switch (draw(6)) {
            case 0: return "add " + account() + " " + number();
            case 1: return "take " + account() + " " + number();
            case 2: return "move " + account() + " " + account() + " " + number();
            case 3: return "hold " + account() + number();
            case 4: return "swap " + account() + " " + account();
            default: return "mark";
        }
    }

    private static String part(int open) {
        if (draw(3) > 0 || open > 3) {
            return step();
        }
        StringBuilder branches = new StringBuilder("{").append(line(open + 1));
        for (int i = draw(2); i >= 0; i--) {
            branches.append(draw(4) == 0 ? " | " : "|").append(line(open + 1));
        }
        return branches.append('}').toString();
    }

    private static String line(int open) {
        StringBuilder line = new StringBuilder(part(open));
        for (int i = draw(open == 0 ? 5 : 2); i > 0; i--) {
            line.append(draw(5) == 0 ? " ;\n" : ";").append(open == 0 && draw(4) == 0 ? "!;" : "").append(part(open));
        }
        return line.toString();
    }

    /** Most are short enough, and have one pivot at most. */
    private static String lineOfTape() {
        String text = "";
        for (int i = 0; i < 20; i++) {
            text = (draw(5) == 0 ? "!;" : "") + line(0) + (draw(8) == 0 ? ";!" : "");
            boolean onePivot = text.indexOf('!') == text.lastIndexOf('!');
            if (text.length() <= 120 && onePivot && draw(20) > 0) {
                break;
            }
        }
        return text;
    }

    private static String drawText() {
        String text = lineOfTape();
        if (draw(6) == 0) {
            int at = draw(text.length());
            String odd = "{}|;! \n5az" + (char) 0 + (char) 200;
            String middle = draw(2) == 0 ? "" : odd.substring(draw(odd.length()), odd.length());
            text = text.substring(0, at) + middle + text.substring(Math.min(text.length(), at + draw(3)));
        }
        return text.length() > 120 ? text.substring(0, 120) : text;
    }

    private boolean feedAll() {
        boolean good = true;
        if (toFeed.isEmpty()) {
            toFeed = drawText();
        }
        while (good && !toFeed.isEmpty() && made < CALLS) {
            good = feedCall();
        }
        return good;
    }

    private boolean feedCall() {
        if (toFeed.isEmpty()) {
            toFeed = drawText();
        }
        int n = Math.min(draw(4) == 0 ? near(1, 5) : 5, toFeed.length());
        int[] b = {0, 0, 0, 0, 0};
        for (int i = 0; i < 5; i++) {
            b[i] = i < n ? toFeed.charAt(i) : draw(60) == 0 ? near(0, 255) : 0;
        }
        long got = desk.feed(n, b[0], b[1], b[2], b[3], b[4]);
        long due = model.feed(n, b[0], b[1], b[2], b[3], b[4]);
        if (due > 0) {
            toFeed = toFeed.substring(n);
        } else if (due == SagaDesk.FULL) {
            toFeed = "";
        }
        return same("feed(" + n + ", " + b[0] + ", " + b[1] + ", " + b[2] + ", " + b[3] + ", " + b[4] + ")", got, due);
    }

    private boolean textCall() {
        return same("text()", desk.text(), model.text());
    }

    // ---- the others

    private boolean tickCall(int run) {
        // Some runs fill the log.
        if (run % 4 == 0 && draw(3) > 0) {
            int a = near(0, 5);
            int v = draw(2) == 0 ? near(0, 300) : near(0, 9999);
            return same("set(" + a + ", " + v + ")", desk.set(a, v), model.set(a, v));
        }
        return same("tick()", desk.tick(), model.tick());
    }

    private boolean sagaCall() {
        int s = near(0, 2);
        int i = near(0, draw(2) == 0 ? 4 : 11);
        int what = near(0, 7);
        switch (draw(6)) {
            case 0:
            case 1:
                int t = near(0, Math.max(0, model.count(0) - 1));
                return same("begin(" + s + ", " + t + ")", desk.begin(s, t), model.begin(s, t));
            case 2:
                int of = near(0, 1);
                int n = draw(2) == 0 ? near(0, 9) : 1;
                return same("plan(" + s + ", " + i + ", " + of + ", " + n + ")",
                    desk.plan(s, i, of, n), model.plan(s, i, of, n));
            case 3:
                return same("why(" + s + ", " + i + ")", desk.why(s, i), model.why(s, i));
            case 4:
                int a = near(0, 5);
                int v = draw(2) == 0 ? near(0, 200) : near(9900, 9999);
                return draw(3) > 0 ? same("told(" + s + ", " + what + ")", desk.told(s, what), model.told(s, what))
                    : same("set(" + a + ", " + v + ")", desk.set(a, v), model.set(a, v));
            default:
                return same("told(" + s + ", " + what + ")", desk.told(s, what), model.told(s, what));
        }
    }

    private static int view() {
        return draw(30) == 0 ? near(0, 60) : draw(2) == 0 ? draw(8) : 10 * (1 + draw(4)) + draw(3);
    }

    private boolean logCall() {
        int size = model.count(2);
        int k = near(0, size);
        int what = near(0, 2);
        int view = view();
        switch (draw(6)) {
            case 0:
            case 1:
                return same("line(" + k + ", " + what + ")", desk.line(k, what), model.line(k, what));
            case 2:
                int n = draw(4) == 0 ? k : Math.max(0, size - draw(6));
                return same("breaks(" + n + ")", desk.breaks(n), model.breaks(n));
            default:
                return same("replay(" + k + ", " + view + ")", desk.replay(k, view), model.replay(k, view));
        }
    }

    private boolean thoughtCall() {
        int s = near(0, 2);
        int seed = draw(2) == 0 ? near(0, 100) : (int) (z >>> 20);
        int view = view();
        int n = draw(2) == 0 ? near(0, 60) : draw(8);
        switch (draw(8)) {
            case 0:
            case 1:
                return same("run(" + n + ", " + view + ")", desk.run(n, view), model.run(n, view));
            case 2:
                int what = near(0, 2);
                return same("ends(" + s + ", " + what + ")", desk.ends(s, what), model.ends(s, what));
            case 3:
                return same("drawn(" + s + ", " + seed + ")", desk.drawn(s, seed), model.drawn(s, seed));
            case 4:
                int m = near(1, 20);
                int part = near(0, 1);
                return same("chance(" + s + ", " + seed + ", " + m + ", " + part + ")",
                    desk.chance(s, seed, m, part), model.chance(s, seed, m, part));
            default:
                return tellCall();
        }
    }

    private boolean tellCall() {
        int sheet = near(0, 3);
        int a = near(0, 5);
        int s = near(0, 2);
        int n = near(0, 20);
        int what = draw(4) == 0 ? near(0, 1) : draw(30) == 0 ? near(90, 230) : 100 * (1 + draw(2)) + near(0, 4);
        if (draw(3) == 0) {
            return same("film(" + sheet + ", " + a + ", " + n + ")", desk.film(sheet, a, n), model.film(sheet, a, n));
        }
        return same("tells(" + sheet + ", " + a + ", " + s + ", " + what + ")",
            desk.tells(sheet, a, s, what), model.tells(sheet, a, s, what));
    }

    private boolean askCall() {
        int t = near(0, Math.max(0, model.count(0) - 1));
        int what = near(0, 5);
        int i = near(0, draw(2) == 0 ? 4 : 11);
        switch (draw(5)) {
            case 0:
                return same("shape(" + t + ", " + what + ")", desk.shape(t, what), model.shape(t, what));
            case 1:
                return same("orders(" + t + ")", desk.orders(t), model.orders(t));
            case 2:
                return same("step(" + t + ", " + i + ", " + what + ")", desk.step(t, i, what), model.step(t, i, what));
            case 3:
                return same("taken(" + t + ", " + i + ", " + what + ")",
                    desk.taken(t, i, what), model.taken(t, i, what));
            default:
                int of = draw(2) == 0 ? near(0, 5) : near(10, 15);
                return same("count(" + of + ")", desk.count(of), model.count(of));
        }
    }

    private boolean sheetCall() {
        int sheet = near(0, 3);
        int other = near(0, 3);
        int i = near(0, 10);
        int j = near(0, 10);
        switch (draw(4)) {
            case 0:
                int sort = near(-1, 1);
                int n = draw(4) == 0 ? near(0, 40) : draw(6);
                return same("sheet(" + sheet + ", " + sort + ", " + n + ")",
                    desk.sheet(sheet, sort, n), model.sheet(sheet, sort, n));
            case 1:
                int size = near(0, 10);
                return same("copy(" + sheet + ", " + i + ", " + other + ", " + j + ", " + size + ")",
                    desk.copy(sheet, i, other, j, size), model.copy(sheet, i, other, j, size));
            default:
                int v = model.count(10 + draw(6)) + (draw(3) == 0 ? draw(30) : 0);
                return same("cell(" + sheet + ", " + i + ", " + v + ")", desk.cell(sheet, i, v), model.cell(sheet, i, v));
        }
    }
}
