import java.util.Random;

/** Runs of calls as they come, of which the program and the Oracle must say the same. */
public final class RandomRunsTest {
    private static final int RUNS = 400;
    private static final int CALLS = 512;
    private static final int[] ODD = {-1, Integer.MIN_VALUE, Integer.MAX_VALUE, -2, 12, 16, 17, 32, 33, 99, 100, 101,
        120, 121, 240, 241, 260, 261, 1584, 1585, 65535, 65536, 1 << 30, 9};

    private final Random random;
    private final Checks checks;
    private final int run;
    private final FearLocks x = new FearLocks();
    private final Oracle o = new Oracle();
    private int calls = 0;

    private RandomRunsTest(int run, Checks checks) {
        this.run = run;
        this.random = new Random(run);
        this.checks = checks;
    }

    public static void main(String[] args) {
        Checks checks = new Checks();
        int runs = args.length > 0 ? Integer.parseInt(args[0]) : RUNS;
        for (int run = 0; run < runs && checks.wrongSoFar() == 0; run++) {
            new RandomRunsTest(run, checks).go();
        }
        checks.finish();
    }

    private void go() {
        for (int p = 0; p < 12; p++) {
            if (random.nextInt(4) > 0) {
                feedText(dreads());
                dreadsCall(p, fed);
            }
        }
        while (calls < CALLS - 30 && checks.wrongSoFar() == 0) {
            step();
        }
    }

    private int fed = 0;

    private void due(String call, long got, long want) {
        calls++;
        checks.due("run " + run + " call " + calls + ": " + call, got, want);
    }

    private int below(int n) {
        return random.nextInt(n);
    }

    /** Mostly a number that fits. */
    private int mostly(int least, int most) {
        return below(12) == 0 ? ODD[below(ODD.length)] : least + below(most - least + 1);
    }

    private void feedInts(int[] fours) {
        due("feed", x.feed(fours[0], fours[1], fours[2], fours[3], fours[4]), o.feed(fours));
    }

    private void feedBytes(int... bytes) {
        for (int from = 0; from < bytes.length; from += 20) {
            int[] fours = new int[5];
            for (int i = 0; i < 20; i++) {
                int sign = from + i < bytes.length ? bytes[from + i] : below(256);
                fours[i / 4] = fours[i / 4] << 8 | sign & 255;
            }
            feedInts(fours);
        }
        fed = bytes.length;
    }

    private void feedText(String text) {
        if (text.length() > 240) {
            text = text.substring(0, 240);
        }
        int[] bytes = new int[text.length()];
        for (int i = 0; i < bytes.length; i++) {
            bytes[i] = text.charAt(i);
        }
        feedBytes(bytes);
    }

    private int length() {
        return below(25) == 0 ? mostly(0, 30) : fed;
    }

    // ---- texts that are mostly right

    private String spoilt(String text) {
        if (below(3) > 0 || text.isEmpty()) {
            return text;
        }
        StringBuilder wrong = new StringBuilder(text);
        String signs = "abcdefgkmnoptvwxs0123456789=+-*/%&|!()[]<>;:q ";
        for (int times = below(2); times >= 0 && wrong.length() > 0; times--) {
            int at = below(wrong.length());
            char sign = below(20) == 0 ? (char) below(256) : signs.charAt(below(signs.length()));
            switch (below(4)) {
                case 0 -> wrong.insert(at, sign);
                case 1 -> wrong.deleteCharAt(at);
                case 2 -> wrong.setCharAt(at, sign);
                default -> wrong.setLength(at);
            }
        }
        return wrong.toString();
    }

    private String number() {
        return below(4) == 0 ? "0" + below(10) : String.valueOf(below(100));
    }

    private String dreads() {
        StringBuilder text = new StringBuilder();
        for (int lines = below(12) == 0 ? 18 + below(5) : 1 + below(5); lines > 0; lines--) {
            if (below(5) == 0) {
                text.append('*');
            } else {
                int start = below(16);
                for (int f = start; f < Math.min(16, start + 1 + below(3)); f++) {
                    text.append((char) ('a' + (below(3) == 0 ? f : f % 4)));
                }
            }
            text.append("=+-".charAt(below(3))).append(below(3) == 0 ? number() : String.valueOf(below(10)));
            text.append(lines > 1 ? ";" : "");
        }
        return spoilt(text.toString());
    }

    private String orders() {
        StringBuilder text = new StringBuilder();
        for (int lines = below(12) == 0 ? 14 + below(5) : 1 + below(7); lines > 0; lines--) {
            switch (below(5)) {
                case 0 -> text.append('d').append(below(17)).append(":").append((char) ('a' + below(16))).append(number());
                case 1 -> text.append('d').append(below(10)).append(":").append((char) ('a' + below(4))).append(below(30));
                case 2 -> text.append('d').append(below(16)).append("!");
                default -> text.append(below(12)).append("&&&/".charAt(below(4))).append(below(12));
            }
            text.append(lines > 1 ? ";" : "");
        }
        return spoilt(text.toString());
    }

    private String factor(int depth) {
        if (depth > 0 && below(4) == 0) {
            return "[" + sum(depth - 1) + "]";
        }
        if (below(3) == 0) {
            return String.valueOf(below(8) == 0 ? below(100000) : below(12));
        }
        return String.valueOf("kdfvgmnotw".charAt(below(10)));
    }

    private String sum(int depth) {
        StringBuilder text = new StringBuilder(factor(depth));
        for (int more = below(3); more > 0; more--) {
            text.append("++-**/%".charAt(below(7))).append(factor(depth));
        }
        return text.toString();
    }

    private String condition(int depth) {
        StringBuilder text = new StringBuilder(test(depth));
        for (int more = below(3); more > 0; more--) {
            text.append("&|".charAt(below(2))).append(test(depth));
        }
        return text.toString();
    }

    private String test(int depth) {
        if (depth > 0 && below(4) == 0) {
            return below(2) == 0 ? "!" + test(depth - 1) : "(" + condition(depth - 1) + ")";
        }
        return sum(depth) + "<>=".charAt(below(3)) + sum(depth);
    }

    private String law() {
        StringBuilder text = new StringBuilder();
        for (int rules = below(15) == 0 ? 15 + below(4) : 1 + below(6); rules > 0; rules--) {
            char kind = "eeeccsssx".charAt(below(9));
            boolean small = below(15) == 0;
            int depth = small ? 0 : below(7);
            text.append(kind).append(kind == 'x' ? "" : small ? "1" : sum(depth));
            text.append('(').append(below(3) == 0 ? "1=1" : condition(depth)).append(')');
            text.append(rules > 1 ? ";" : "");
            if (text.length() > 200) {
                break;
            }
        }
        String made = text.toString();
        return spoilt(made.endsWith(";") ? made.substring(0, made.length() - 1) : made);
    }

    // ---- calls

    private void dreadsCall(int p, int n) {
        due("dreads(" + p + ", " + n + ")", x.dreads(p, n), o.dreads(p, n));
    }

    private void clear() {
        if (below(10) > 0) {
            due("check(0)", x.check(0), o.check(0));
        }
    }

    private void step() {
        switch (below(12)) {
            case 0, 1 -> texts();
            case 2, 3 -> nightCalls();
            case 4, 5, 6 -> questions();
            case 7, 8 -> moreQuestions();
            case 9, 10 -> tapeQuestions();
            default -> keeping();
        }
        int what = below(10) - 1;
        due("count(" + what + ")", x.count(what), o.count(what));
    }

    private void texts() {
        clear();
        switch (below(3)) {
            case 0 -> {
                feedText(dreads());
                dreadsCall(mostly(0, 11), length());
            }
            case 1 -> {
                feedText(orders());
                int n = length();
                due("orders(" + n + ")", x.orders(n), o.orders(n));
            }
            default -> {
                String text = law();
                feedText(text);
                int n = length();
                due("law(" + n + ") of " + text, x.law(n), o.law(n));
            }
        }
    }

    private void nightCalls() {
        int n = below(4) == 0 ? mostly(1, 100) : 1 + below(3);
        if (below(2) == 0) {
            due("nights(" + n + ")", x.nights(n), o.nights(n));
        } else {
            int what = below(6) == 0 ? mostly(-2, 70) : new int[] {0, 1, 10 + below(12), 30 + below(12), 50 + below(16)}[below(5)];
            due("tried(" + n + ", " + what + ")", x.tried(n, what), o.tried(n, what));
        }
        for (int p = 0; p < 12; p += 1 + below(6)) {
            int what = new int[] {below(16), 100, 101, 104}[below(4)];
            due("personIs(" + p + ", " + what + ")", x.personIs(p, what), o.personIs(p, what));
        }
    }

    private void questions() {
        int p = mostly(0, 11);
        int q = mostly(0, 11);
        int d = mostly(0, 15);
        switch (below(7)) {
            case 0 -> {
                int what = below(2) == 0 ? mostly(0, 15) : 99 + below(7);
                due("personIs(" + p + ", " + what + ")", x.personIs(p, what), o.personIs(p, what));
            }
            case 1 -> {
                int what = below(6) - 1;
                due("doorIs(" + d + ", " + what + ")", x.doorIs(d, what), o.doorIs(d, what));
            }
            case 2 -> due("taught(" + p + ", " + d + ")", x.taught(p, d), o.taught(p, d));
            case 3 -> due("lodgings()", x.lodgings(), o.lodgings());
            case 4 -> {
                int what = mostly(0, 1);
                due("crew(" + what + ")", x.crew(what), o.crew(what));
            }
            case 5 -> {
                int much = below(2) == 0 ? mostly(1, 99) : 1 + below(12);
                due("couples(" + much + ")", x.couples(much), o.couples(much));
            }
            default -> due("unlike(" + p + ", " + q + ")", x.unlike(p, q), o.unlike(p, q));
        }
    }

    private void moreQuestions() {
        int p = mostly(0, 11);
        int q = mostly(0, 11);
        int what = mostly(0, 1);
        switch (below(7)) {
            case 0 -> {
                int f = below(2) == 0 ? mostly(0, 15) : below(4);
                int least = below(2) == 0 ? mostly(1, 11) : 1 + below(2);
                due("fashion(" + f + ", " + least + ", " + what + ")", x.fashion(f, least, what), o.fashion(f, least, what));
            }
            case 1 -> due("fears(" + what + ")", x.fears(what), o.fears(what));
            case 2 -> due("mostLike(" + p + ")", x.mostLike(p), o.mostLike(p));
            case 3 -> {
                int much = below(2) == 0 ? mostly(0, 1584) : below(200);
                int which = below(2) == 0 ? 100 : mostly(0, 11);
                due("circles(" + much + ", " + which + ")", x.circles(much, which), o.circles(much, which));
            }
            case 4 -> due("keystones()", x.keystones(), o.keystones());
            case 5 -> due("steps(" + p + ", " + q + ")", x.steps(p, q), o.steps(p, q));
            default -> {
                int fears = below(2) == 0 ? mostly(1, 65535) : below(16);
                due("sentNext(" + fears + ", " + what + ")", x.sentNext(fears, what), o.sentNext(fears, what));
            }
        }
    }

    private void tapeQuestions() {
        clear();
        switch (below(5)) {
            case 0 -> guess();
            case 1 -> guards();
            case 2 -> rooms();
            case 3 -> check();
            default -> {
                int letters = mostly(1, 8);
                int fears = below(2) == 0 ? mostly(0, 65535) : below(16);
                int weight = below(2) == 0 ? mostly(0, 128) : below(30);
                due("word(" + letters + ", " + fears + ", " + weight + ")", x.word(letters, fears, weight),
                    o.word(letters, fears, weight));
            }
        }
    }

    private void guess() {
        int tries = 1 + (below(2) == 0 ? below(12) : below(3));
        int[] bytes = new int[2 * tries];
        for (int i = 0; i < tries; i++) {
            bytes[2 * i] = below(40) == 0 ? below(256) : toldOne();
            bytes[2 * i + 1] = below(40) == 0 ? below(256) : below(4) / 3;
        }
        feedBytes(bytes);
        int n = below(12) == 0 ? mostly(0, 13) : tries;
        int what = below(3) == 0 ? 100 : below(3) == 0 ? mostly(0, 36) : below(2) * 20 + below(5);
        due("guess(" + n + ", " + what + ")", x.guess(n, what), o.guess(n, what));
    }

    private int toldOne() {
        int told = o.count(1);
        int p = below(12);
        for (int i = 0; i < 12 && (told >> p & 1) == 0; i++) {
            p = (p + 1) % 12;
        }
        return p;
    }

    private void guards() {
        int n = 3 + below(4);
        int[] bytes = new int[n];
        for (int i = 0; i < n; i++) {
            bytes[i] = i == 0 || below(12) == 0 ? toldOne() : (bytes[i - 1] + 1) % 12;
            if (below(60) == 0) {
                bytes[i] = below(256);
            }
        }
        feedBytes(bytes);
        int asked = below(12) == 0 ? mostly(0, 8) : n;
        due("guards(" + asked + ")", x.guards(asked), o.guards(asked));
    }

    private void rooms() {
        int n = 1 + below(12);
        int kinds = 1 + below(below(2) == 0 ? 16 : 3);
        int[] bytes = new int[n];
        for (int i = 0; i < n; i++) {
            bytes[i] = below(60) == 0 ? below(256) : below(3) == 0 ? 0 : below(kinds);
        }
        feedBytes(bytes);
        int asked = below(12) == 0 ? mostly(0, 13) : n;
        int dread = mostly(0, 99);
        due("rooms(" + asked + ", " + dread + ")", x.rooms(asked, dread), o.rooms(asked, dread));
    }

    private void check() {
        int n = below(13);
        int[] bytes = new int[n];
        for (int p = 0; p < n; p++) {
            int right = o.personIs(p, 101) < 0 ? 255 : o.personIs(p, 101);
            bytes[p] = below(15) == 0 ? below(256) : right;
        }
        feedBytes(bytes);
        int asked = below(8) == 0 ? mostly(0, 14) : n;
        due("check(" + asked + ")", x.check(asked), o.check(asked));
    }

    private void keeping() {
        switch (below(4)) {
            case 0 -> due("keep()", x.keep(), o.keep());
            case 1 -> due("undo()", x.undo() ? 1 : 0, o.undo() ? 1 : 0);
            case 2 -> {
                int seed = mostly(0, 65535);
                due("seed(" + seed + ")", x.seed(seed) ? 1 : 0, o.seed(seed) ? 1 : 0);
            }
            default -> feedInts(new int[] {random.nextInt(), random.nextInt(), random.nextInt(), random.nextInt(), 0});
        }
    }
}
