/** What the tests share: answers that are compared, texts that are fed. */
final class Checks {
    private int wrong = 0;

    void due(String call, long got, long want) {
        if (got != want) {
            wrong++;
            if (wrong <= 30) {
                System.out.println(call + " answered " + got + ", due is " + want);
            }
        }
    }

    void due(String call, boolean got, boolean want) {
        due(call, got ? 1 : 0, want ? 1 : 0);
    }

    int wrongSoFar() {
        return wrong;
    }

    /** Ends the program; with 1 if an answer was not as due. */
    void finish() {
        System.out.println(wrong == 0 ? "all answers are as due" : wrong + " answers are not as due");
        System.exit(wrong == 0 ? 0 : 1);
    }

    static void feed(FearLocks x, int... bytes) {
        for (int from = 0; from < bytes.length; from += 20) {
            int[] fours = new int[5];
            for (int i = 0; i < 20; i++) {
                int sign = from + i < bytes.length ? bytes[from + i] : 0;
                fours[i / 4] = fours[i / 4] << 8 | sign & 255;
            }
            x.feed(fours[0], fours[1], fours[2], fours[3], fours[4]);
        }
    }

    static void feed(FearLocks x, String text) {
        int[] bytes = new int[text.length()];
        for (int i = 0; i < bytes.length; i++) {
            bytes[i] = text.charAt(i);
        }
        feed(x, bytes);
    }

    /** An empty tape; check(0) is the one call that empties it and does nothing else. */
    static void empty(FearLocks x) {
        x.check(0);
    }

    static int law(FearLocks x, String text) {
        empty(x);
        feed(x, text);
        return x.law(text.length());
    }

    static int dreads(FearLocks x, int p, String text) {
        empty(x);
        feed(x, text);
        return x.dreads(p, text.length());
    }

    static int orders(FearLocks x, String text) {
        empty(x);
        feed(x, text);
        return x.orders(text.length());
    }

    static int guess(FearLocks x, int what, int... tries) {
        empty(x);
        feed(x, tries);
        return x.guess(tries.length / 2, what);
    }

    static int guards(FearLocks x, int... who) {
        empty(x);
        feed(x, who);
        return x.guards(who.length);
    }

    static int rooms(FearLocks x, int dread, int... fears) {
        empty(x);
        feed(x, fears);
        return x.rooms(fears.length, dread);
    }

    static int check(FearLocks x, int... right) {
        empty(x);
        feed(x, right);
        return x.check(right.length);
    }

    /** PEOPLE told by texts, a ' ' between two; '.' for one who is not told. */
    static FearLocks city(String people) {
        FearLocks x = new FearLocks();
        String[] texts = people.split(" ");
        for (int p = 0; p < texts.length; p++) {
            if (!texts[p].equals(".")) {
                int lines = dreads(x, p, texts[p]);
                if (lines < 1) {
                    throw new IllegalStateException(texts[p] + " answered " + lines);
                }
            }
        }
        return x;
    }
}
