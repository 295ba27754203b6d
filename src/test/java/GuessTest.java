/** Promises 21 and 22: A DOOR OF NO ONE KNOWS WHAT, and whom to send next. */
public final class GuessTest {
    private static final Checks CHECKS = new Checks();

    public static void main(String[] args) {
        guesses();
        refused();
        sentNext();
        CHECKS.finish();
    }

    private static void due(String call, long got, long want) {
        CHECKS.due(call, got, want);
    }

    private static void guesses() {
        FearLocks x = Checks.city("a=40 a=60 b=99 c=5;d=5 . p=1 a=0");
        due("it opened to 0", Checks.guess(x, 100, 0, 1), 1);
        due("least", Checks.guess(x, 0, 0, 1), 0);
        due("greatest", Checks.guess(x, 20, 0, 1), 40);
        due("of b", Checks.guess(x, 1, 0, 1), -2);
        due("of b", Checks.guess(x, 21, 0, 1), -2);
        due("it did not", Checks.guess(x, 100, 0, 0), 65535);
        due("least", Checks.guess(x, 0, 0, 0), 41);
        due("greatest", Checks.guess(x, 20, 0, 0), 99);
        due("of b", Checks.guess(x, 1, 0, 0), 0);
        due("of b", Checks.guess(x, 21, 0, 0), 99);
        due("of p", Checks.guess(x, 15, 0, 0), 0);
        due("of p", Checks.guess(x, 35, 5, 1), 1);
        due("between", Checks.guess(x, 0, 1, 1, 0, 0), 41);
        due("between", Checks.guess(x, 20, 1, 1, 0, 0), 60);
        due("the wrong way round", Checks.guess(x, 100, 0, 1, 1, 0), 0);
        FearLocks near = Checks.city("a=40 a=41");
        due("41 alone", Checks.guess(near, 100, 0, 0, 1, 1), 1);
        due("41 alone", Checks.guess(near, 0, 0, 0, 1, 1), 41);
        due("41 alone", Checks.guess(near, 20, 0, 0, 1, 1), 41);
        due("the wrong way round", Checks.guess(x, 0, 0, 1, 1, 0), -2);
        due("both ways", Checks.guess(x, 100, 0, 1, 0, 0), 0);
        due("99 did not", Checks.guess(x, 100, 2, 0), 65535 & ~2);
        due("99 did not", Checks.guess(x, 1, 2, 0), -2);
        due("99 did", Checks.guess(x, 100, 2, 1), 2);
        due("one without a FEAR did not", Checks.guess(x, 100, 3, 0), 65535);
        due("one without a FEAR did", Checks.guess(x, 100, 3, 1), 0);
        due("one without a FEAR did", Checks.guess(x, 2, 3, 1), -2);
        due("no DREAD", Checks.guess(x, 100, 6, 1), 0);
        due("twelve", Checks.guess(x, 100, 0, 0, 0, 0, 0, 0, 0, 0, 0, 0, 0, 0, 0, 0, 0, 0, 0, 0, 0, 0, 0, 0, 2, 0), 65533);
        Checks.feed(x, 0, 1, 1, 0);
        due("the first tries alone", x.guess(1, 100), 1);
        due("the tape is empty", x.count(6), 0);
        due("DREADS as they are", Checks.dreads(x, 0, "a=39"), 1);
        due("greatest", Checks.guess(x, 20, 0, 1), 39);
    }

    private static void refused() {
        FearLocks x = Checks.city("a=40 a=60");
        due("untold", Checks.guess(x, 100, 0, 1, 2, 0), -3);
        due("the tape is empty", x.count(6), 0);
        due("untold", Checks.guess(x, 0, 255, 0), -3);
        due("untold", Checks.guess(x, 100, 12, 0), -3);
        due("untold", Checks.guess(x, 100, 32, 0), -3);
        due("neither", Checks.guess(x, 100, 0, 2), -3);
        due("neither", Checks.guess(x, 100, 0, 255), -3);
        due("-3 ahead of -2", Checks.guess(x, 1, 0, 1, 1, 2), -3);
        Checks.empty(x);
        Checks.feed(x, 0, 1);
        int[] what = {-1, 16, 17, 19, 36, 99, 101, Integer.MIN_VALUE, Integer.MAX_VALUE};
        for (int w : what) {
            due("what " + w, x.guess(1, w), -1);
        }
        int[] tries = {0, -1, 13, 11, Integer.MAX_VALUE, Integer.MIN_VALUE, 1 << 30, (1 << 31) + 1};
        for (int n : tries) {
            due("tries " + n, x.guess(n, 100), -1);
        }
        due("the tape stays", x.count(6), 20);
        due("ten", x.guess(10, 100), 0);
        Checks.feed(x, new int[40]);
        due("thirteen", x.guess(13, 100), -1);
        due("the tape stays", x.count(6), 40);
    }

    private static void sentNext() {
        FearLocks x = Checks.city(". b=9 a=9 *=9 b=7");
        due("who", x.sentNext(1, 0), 1);
        due("left", x.sentNext(1, 1), 1);
        due("who", x.sentNext(5, 0), 2);
        due("left", x.sentNext(5, 1), 1);
        due("the lowest", x.sentNext(7, 0), 1);
        due("left", x.sentNext(7, 1), 2);
        due("who can't tell", x.sentNext(12, 0), 1);
        due("left", x.sentNext(12, 1), 2);
        due("all", x.sentNext(65535, 1), 15);
        due("of b", x.sentNext(65534, 0), 1);
        int[][] wrong = {{0, 0}, {65536, 0}, {-1, 0}, {1, 2}, {1, -1}};
        for (int[] w : wrong) {
            due("sentNext " + w[0] + " " + w[1], x.sentNext(w[0], w[1]), -1);
        }
        FearLocks nobody = new FearLocks();
        due("nobody", nobody.sentNext(1, 0), -2);
        due("nobody", nobody.sentNext(1, 1), -2);
        due("nobody", nobody.sentNext(0, 1), -1);
        due("one without a FEAR", Checks.city(". *=1").sentNext(7, 1), 3);
        due("one without a FEAR", Checks.city(". *=1").sentNext(7, 0), 1);
    }
}
