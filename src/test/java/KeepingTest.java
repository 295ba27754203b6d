/** Promises 1 and 26 to 30: a new object, THE SEED, KEPT and UNDONE, CHECK, count. */
public final class KeepingTest {
    private static final Checks CHECKS = new Checks();

    public static void main(String[] args) {
        anew();
        seed();
        keptAndUndone();
        whatStaysAsItIs();
        check();
        count();
        CHECKS.finish();
    }

    private static void due(String call, long got, long want) {
        CHECKS.due(call, got, want);
    }

    private static void anew() {
        FearLocks x = new FearLocks();
        int[] want = {0, 0, 0, 0, 0, 0, 0, 1, -1, -1};
        for (int what = 0; what < want.length; what++) {
            due("count " + what, x.count(what), want[what]);
        }
        due("nobody", x.personIs(0, 0), -1);
        due("no DOOR", x.doorIs(0, 0), -1);
        CHECKS.due("none was KEPT", x.undo(), false);
        FearLocks other = new FearLocks();
        Checks.dreads(x, 0, "a=1");
        due("each city for itself", other.count(1), 0);
    }

    private static void seed() {
        FearLocks x = Checks.city("a=5");
        CHECKS.due("0", x.seed(0), true);
        due("X", x.count(7), 0);
        x.nights(1);
        due("X", x.count(7), 13849);
        CHECKS.due("65535", x.seed(65535), true);
        due("X", x.count(7), 65535);
        x.nights(1);
        due("X", x.count(7), (25173 * 65535 + 13849) % 65536);
        int before = x.count(7);
        CHECKS.due("65536", x.seed(65536), false);
        CHECKS.due("-1", x.seed(-1), false);
        CHECKS.due("least", x.seed(Integer.MIN_VALUE), false);
        due("X", x.count(7), before);
    }

    private static void keptAndUndone() {
        FearLocks x = Checks.city("a=50 b=5");
        Checks.orders(x, "d0:a5;d1:b90;0&1");
        Checks.law(x, "e1(k=0);c2(1=1);s1(1=1)");
        due("nights", x.nights(3), 3);
        due("KEPT", x.keep(), 3);
        int[] before = {x.personIs(0, 0), x.personIs(0, 1), x.personIs(1, 1), x.doorIs(0, 2), x.count(7)};
        due("nights", x.nights(7), 7);
        due("THE NIGHT", x.count(0), 10);
        CHECKS.due("changed", x.personIs(0, 0) != before[0], true);
        for (int times = 0; times < 2; times++) {
            CHECKS.due("UNDONE", x.undo(), true);
            due("a", x.personIs(0, 0), before[0]);
            due("b", x.personIs(0, 1), before[1]);
            due("b of 1", x.personIs(1, 1), before[2]);
            due("OPENED", x.doorIs(0, 2), before[3]);
            due("X", x.count(7), before[4]);
            due("THE NIGHT", x.count(0), 3);
            due("nights", x.nights(2), 2);
        }
        due("KEPT anew", x.keep(), 5);
        x.nights(1);
        x.undo();
        due("as KEPT last", x.count(0), 5);
    }

    private static void whatStaysAsItIs() {
        FearLocks x = Checks.city("a=50");
        Checks.orders(x, "d0:a5;d1:a6");
        Checks.law(x, "e2(d=1);e1(1=1)");
        x.nights(3);
        due("KEPT", x.keep(), 3);
        Checks.dreads(x, 0, "a=60");
        Checks.dreads(x, 5, "c=7;d=8");
        Checks.orders(x, "0&5;d2:a1;d1:b7");
        Checks.law(x, "e1(d=2);e1(1=1);x(k=5)");
        x.nights(4);
        Checks.feed(x, 1, 2, 3);
        CHECKS.due("UNDONE", x.undo(), true);
        due("told", x.count(1), 1 | 1 << 5);
        due("who was not told then", x.personIs(5, 104), 0);
        due("who was told then", x.personIs(0, 0), 50);
        due("twos", x.count(3), 1);
        due("DOORS", x.count(2), 7);
        due("a DOOR not told then", x.doorIs(2, 2), 0);
        due("a DOOR told otherwise", x.doorIs(1, 0), 1);
        due("a DOOR told otherwise", x.doorIs(1, 1), 7);
        due("OPENED as then", x.doorIs(1, 2), 3);
        due("RULES", x.count(5), 3);
        due("the tape", x.count(6), 20);
        Checks.orders(x, "d1!");
        due("none of it", x.count(4), 0);
        x.undo();
        due("still told no more", x.count(2), 5);
        due("OPENED of all, told or not", x.count(4), 3);
        x.keep();
        x.undo();
        due("it was not told then", x.count(4), 0);
        Checks.orders(x, "d1:a1");
        due("told anew", x.doorIs(1, 2), 0);
    }

    private static void check() {
        FearLocks x = Checks.city("a=50 . b=7;c=9 *=0");
        due("right", Checks.check(x, 50, 255, 9, 0), -1);
        due("right", Checks.check(x, 50, 255, 9, 0, 255, 255, 255, 255, 255, 255, 255, 255), -1);
        due("right so far", Checks.check(x, 50), -1);
        due("the first one", Checks.check(x, 49, 255, 8, 0), 0);
        due("not told", Checks.check(x, 50, 0, 8, 0), 1);
        due("not told", Checks.check(x, 50, 255, 7, 0), 2);
        due("told", Checks.check(x, 50, 255, 9, 255), 3);
        due("the last", Checks.check(x, 50, 255, 9, 0, 255, 255, 255, 255, 255, 255, 255, 254), 11);
        due("the tape is empty", x.count(6), 0);
        due("none", x.check(0), -1);
        Checks.feed(x, 50, 255);
        due("-1", x.check(-1), -2);
        due("13", x.check(13), -2);
        due("least", x.check(Integer.MIN_VALUE), -2);
        due("the tape stays", x.count(6), 20);
        due("two", x.check(2), -1);
        due("more than it has", x.check(1), -2);
        Checks.feed(x, 1);
        due("none", x.check(0), -1);
        due("the tape is empty", x.count(6), 0);
    }

    private static void count() {
        FearLocks x = Checks.city("a=50 . b=7;c=9");
        Checks.orders(x, "0&2;d0:a1;d15:b0");
        Checks.law(x, "e1(1=1);x(1=2)");
        x.nights(2);
        Checks.feed(x, 1, 2, 3);
        due("THE NIGHT", x.count(0), 2);
        due("PEOPLE", x.count(1), 5);
        due("DOORS", x.count(2), 1 | 1 << 15);
        due("twos", x.count(3), 1);
        due("OPENED", x.count(4), 2);
        due("RULES", x.count(5), 2);
        due("bytes", x.count(6), 20);
        due("X", x.count(7), x.count(7));
        int[] wrong = {-1, 8, 100, Integer.MIN_VALUE, Integer.MAX_VALUE};
        for (int what : wrong) {
            due("count " + what, x.count(what), -1);
        }
    }
}
