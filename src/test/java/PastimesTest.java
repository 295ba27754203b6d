/** Promises 23 to 25: GUARDS, A WORD, ROOMS. */
public final class PastimesTest {
    private static final Checks CHECKS = new Checks();

    public static void main(String[] args) {
        guards();
        words();
        rooms();
        CHECKS.finish();
    }

    private static void due(String call, long got, long want) {
        CHECKS.due(call, got, want);
    }

    private static void guards() {
        FearLocks x = Checks.city("a=1 a=2 b=1 c=1 *=1 *=0 a=9 b=9");
        due("all unlike", Checks.guards(x, 0, 2, 3), 6);
        due("two alike of three", Checks.guards(x, 0, 1, 2), 0);
        due("without a FEAR", Checks.guards(x, 4, 5, 0), 6);
        due("two alike of four", Checks.guards(x, 0, 1, 2, 3), 8);
        due("three and three", Checks.guards(x, 0, 1, 6, 2, 3, 4), 72);
        due("two and two", Checks.guards(x, 0, 2, 1, 7), 8);
        due("six unlike", Checks.guards(Checks.city("a=1 b=1 c=1 d=1 e=1 f=1"), 5, 4, 3, 2, 1, 0), 720);
        due("three of five", Checks.guards(x, 0, 1, 6, 4, 5), 0);
        due("one twice", Checks.guards(x, 0, 2, 0), -3);
        due("the tape is empty", x.count(6), 0);
        due("untold", Checks.guards(x, 0, 2, 8), -3);
        due("untold", Checks.guards(x, 255, 2, 3), -3);
        due("untold", Checks.guards(x, 0, 2, 32), -3);
        Checks.empty(x);
        Checks.feed(x, 0, 2, 3, 4, 5, 6, 7);
        int[] wrong = {2, 7, 0, -1, Integer.MAX_VALUE, Integer.MIN_VALUE};
        for (int n : wrong) {
            due("guards " + n, x.guards(n), -1);
        }
        due("the tape stays", x.count(6), 20);
        due("six of them", x.guards(6), 432);
        due("nothing there", x.guards(3), -1);
    }

    private static void words() {
        FearLocks x = new FearLocks();
        due("aa", x.word(2, 1, 2), 1);
        due("ab, ba", x.word(2, 3, 3), 2);
        due("p", x.word(1, 65535, 16), 1);
        due("no such", x.word(1, 65535, 17), 0);
        due("none weighs nothing", x.word(1, 65535, 0), 0);
        due("no letters", x.word(8, 0, 0), 0);
        due("no letters", x.word(8, 0, 8), 0);
        due("all p", x.word(8, 65535, 128), 1);
        due("but one", x.word(8, 65535, 127), 8);
        due("of like ones", x.word(8, 32768, 128), 1);
        due("three", x.word(3, 7, 6), 7);
        long all = 0;
        for (int weight = 0; weight <= 128; weight++) {
            all += x.word(8, 65535, weight);
        }
        due("all words", all, 1L << 32);
        int[][] wrong = {{0, 1, 1}, {9, 1, 1}, {1, -1, 1}, {1, 65536, 1}, {1, 1, -1}, {1, 1, 129}, {-1, 1, 1}};
        for (int[] w : wrong) {
            due("word " + w[0] + " " + w[1] + " " + w[2], x.word(w[0], w[1], w[2]), -1);
        }
    }

    private static void rooms() {
        FearLocks x = new FearLocks();
        due("one", Checks.rooms(x, 33, 7), 33);
        due("two alike", Checks.rooms(x, 33, 7, 7), 40);
        due("two unlike", Checks.rooms(x, 33, 7, 8), 28);
        due("0 at least", Checks.rooms(x, 3, 7, 8), 0);
        due("99 at most", Checks.rooms(x, 95, 7, 7), 99);
        due("99, then less", Checks.rooms(x, 95, 7, 7, 7, 1), 89);
        due("more comes first", Checks.rooms(x, 4, 7, 1, 7, 7), 1);
        due("twelve alike", Checks.rooms(x, 0, 5, 5, 5, 5, 5, 5, 5, 5, 5, 5, 5, 5), 77);
        due("twelve unlike", Checks.rooms(x, 99, 0, 1, 2, 3, 4, 5, 6, 7, 8, 9, 10, 15), 44);
        due("half of them", Checks.rooms(x, 99, 0, 0, 0, 0, 0, 0, 1, 1, 1, 2, 2, 2), 44);
        due("one more than half", Checks.rooms(x, 60, 0, 0, 0, 0, 0, 0, 0, 1, 1, 2, 2, 2), 60 + 7 - 50);
        due("a byte above 15", Checks.rooms(x, 60, 1, 16), -3);
        due("the tape is empty", x.count(6), 0);
        due("a byte above 15", Checks.rooms(x, 60, 255), -3);
        Checks.empty(x);
        Checks.feed(x, 1, 1, 99);
        int[][] wrong = {{0, 5}, {13, 5}, {-1, 5}, {2, -1}, {2, 100}, {Integer.MAX_VALUE, 5}};
        for (int[] w : wrong) {
            due("rooms " + w[0] + " " + w[1], x.rooms(w[0], w[1]), -1);
        }
        due("the tape stays", x.count(6), 20);
        due("the first two", x.rooms(2, 5), 12);
        due("nothing there", x.rooms(1, 5), -1);
        againstAllOrders();
    }

    private static void againstAllOrders() {
        FearLocks x = null;
        int calls = 0;
        for (int n = 1; n <= 6; n++) {
            for (int number = 0; number < Math.pow(4, n); number += n < 5 ? 1 : 5) {
                int[] fears = new int[n];
                for (int i = 0, rest = number; i < n; i++, rest /= 4) {
                    fears[i] = rest % 4;
                }
                for (int dread = 0; dread <= 99; dread += 9) {
                    if (calls++ % 128 == 0) {
                        x = new FearLocks();
                    }
                    int want = 99;
                    for (int first = 0; first < n; first++) {
                        want = Math.min(want, byAnyOrder(fears, 1 << first, first, dread));
                    }
                    due("rooms of " + number + " with " + dread, Checks.rooms(x, dread, fears), want);
                }
            }
        }
    }

    private static int byAnyOrder(int[] fears, int slept, int last, int dread) {
        int best = slept == (1 << fears.length) - 1 ? dread : 99;
        for (int next = 0; next < fears.length; next++) {
            if ((slept >> next & 1) == 0) {
                int then = fears[next] == fears[last] ? Math.min(99, dread + 7) : Math.max(0, dread - 5);
                best = Math.min(best, byAnyOrder(fears, slept | 1 << next, next, then));
            }
        }
        return best;
    }
}
