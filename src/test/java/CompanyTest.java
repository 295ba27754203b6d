/** Promises 13 to 20: COUPLES, FASHION, NOBODY'S and ALL'S, LIKE, CIRCLES, KEYSTONES, STEPS. */
public final class CompanyTest {
    private static final Checks CHECKS = new Checks();

    public static void main(String[] args) {
        couples();
        fashion();
        fears();
        alike();
        circles();
        keystones();
        steps();
        CHECKS.finish();
    }

    private static void due(String call, long got, long want) {
        CHECKS.due(call, got, want);
    }

    private static void couples() {
        FearLocks x = Checks.city("a=10 a=9;b=9 b=10;c=3 c=10;d=10 d=50 e=99");
        due("so little", x.couples(1), 2);
        due("a path", x.couples(3), 2);
        due("9", x.couples(9), 2);
        due("10: only d", x.couples(10), 1);
        due("11", x.couples(11), 0);
        due("99", x.couples(99), 0);
        due("0", x.couples(0), -1);
        due("100", x.couples(100), -1);
        due("-1", x.couples(-1), -1);
        FearLocks y = Checks.city("a=5 a=5 a=5 a=5 a=5 a=5 a=5 a=5 a=5 a=5 a=5 a=5");
        due("six", y.couples(5), 6);
        due("none", y.couples(6), 0);
        FearLocks star = Checks.city("abcde=9 a=9 b=9 c=9 d=9 e=9");
        due("one in the midst", star.couples(9), 1);
        FearLocks odd = Checks.city("ab=9 bc=9 ca=9;d=9 de=9 ef=9 fd=9;g=9 g=9 hi=9 ij=9 jh=9");
        due("a ring of three", odd.couples(9), 4);
        FearLocks path = Checks.city("bc=9 a=9 ab=9 cd=9 d=9");
        due("by the ends of it", path.couples(1), 2);
    }

    private static void fashion() {
        FearLocks x = Checks.city("a=9 b=9 a=9 *=1 c=9 a=9;b=9 d=9");
        Checks.orders(x, "0&1;2&1;1&3;3&4;4&5;0&4");
        due("who has it at first", x.fashion(3, 1, 0), 64);
        due("no rounds", x.fashion(3, 1, 1), 0);
        due("by one", x.fashion(0, 1, 0), 63);
        due("rounds", x.fashion(0, 1, 1), 2);
        due("by two", x.fashion(0, 2, 0), 7 | 0);
        due("rounds", x.fashion(0, 2, 1), 1);
        due("of c", x.fashion(2, 1, 0), 63);
        due("rounds", x.fashion(2, 1, 1), 3);
        due("by 11", x.fashion(0, 11, 0), 5);
        due("by 11", x.fashion(0, 11, 1), 0);
        due("nobody's", x.fashion(15, 1, 0), 0);
        int[][] wrong = {{-1, 1, 0}, {16, 1, 0}, {0, 0, 0}, {0, 12, 0}, {0, 1, 2}, {0, 1, -1}, {0, -1, 0}};
        for (int[] w : wrong) {
            due("fashion " + w[0] + " " + w[1] + " " + w[2], x.fashion(w[0], w[1], w[2]), -1);
        }
        FearLocks row = Checks.city("a=1 b=1 b=1 b=1 b=1 b=1 b=1 b=1 b=1 b=1 b=1 b=1");
        Checks.orders(row, "0&1;1&2;2&3;3&4;4&5;5&6;6&7;7&8;8&9;9&10;10&11");
        due("to the last one", row.fashion(0, 1, 0), 4095);
        due("eleven rounds", row.fashion(0, 1, 1), 11);
        FearLocks ring = Checks.city("a=1 a=1 b=1 b=1 c=1");
        Checks.orders(ring, "0&2;1&2;2&3;0&3;2&4;3&4");
        due("who came to have it counts, too", ring.fashion(0, 2, 0), 31);
        due("round by round", ring.fashion(0, 2, 1), 3);
    }

    private static void fears() {
        FearLocks x = Checks.city("abc=1 bcd=5 . bp=99");
        due("nobody's", x.fears(0), 65535 & ~(15 | 1 << 15));
        due("all's", x.fears(1), 2);
        due("what", x.fears(2), -1);
        due("what", x.fears(-1), -1);
        FearLocks one = Checks.city("*=0");
        due("nobody's", one.fears(0), 65535);
        due("all's", one.fears(1), 0);
        FearLocks none = new FearLocks();
        due("nobody's", none.fears(0), 65535);
        due("all's", none.fears(1), 65535);
    }

    private static void alike() {
        FearLocks x = Checks.city("a=10 a=12;b=1 . a=7 *=99 p=13");
        due("unlike", x.unlike(0, 1), 3);
        due("unlike", x.unlike(1, 0), 3);
        due("himself", x.unlike(4, 4), 0);
        due("far", x.unlike(0, 4), 15 * 99 + 89);
        due("unlike", x.unlike(3, 5), 20);
        due("untold", x.unlike(0, 2), -1);
        due("untold", x.unlike(2, 0), -1);
        due("untold", x.unlike(12, 0), -1);
        due("untold", x.unlike(0, -1), -1);
        due("the lowest of like ones", x.mostLike(0), 1);
        due("most like", x.mostLike(1), 0);
        due("most like", x.mostLike(3), 0);
        due("most like", x.mostLike(4), 1);
        due("most like", x.mostLike(5), 3);
        due("untold", x.mostLike(2), -1);
        due("untold", x.mostLike(-1), -1);
        due("untold", x.mostLike(12), -1);
        due("no other", Checks.city(". . a=5").mostLike(2), -2);
        due("far, but the only one", Checks.city("*=0 *=99").mostLike(0), 1);
        due("far", Checks.city("*=0 *=99").unlike(0, 1), 1584);
    }

    private static void circles() {
        FearLocks x = Checks.city("a=10 a=20 . a=30 a=45 b=1");
        due("each alone", x.circles(9, 100), 5);
        due("one by one", x.circles(10, 100), 3);
        due("that of 0", x.circles(10, 0), 1 | 2 | 8);
        due("that of 3", x.circles(10, 3), 1 | 2 | 8);
        due("that of 4", x.circles(10, 4), 16);
        due("with b", x.circles(11, 5), 1 | 2 | 8 | 32);
        due("that of 4", x.circles(14, 4), 16);
        due("all", x.circles(15, 4), 59);
        due("one", x.circles(1584, 100), 1);
        due("nobody", new FearLocks().circles(1584, 100), 0);
        due("like ones", Checks.city("a=1 a=1").circles(0, 100), 1);
        int[][] wrong = {{-1, 100}, {1585, 100}, {5, 2}, {5, 6}, {5, 12}, {5, 99}, {5, 101}, {5, -1}};
        for (int[] w : wrong) {
            due("circles " + w[0] + " " + w[1], x.circles(w[0], w[1]), -1);
        }
    }

    private static void keystones() {
        String all = "a=1 a=1 a=1 a=1 a=1 a=1 a=1 a=1 a=1 a=1 a=1 a=1";
        FearLocks x = Checks.city(all);
        due("nobody KNOWS anybody", x.keystones(), 0);
        Checks.orders(x, "0&1");
        due("two", x.keystones(), 0);
        Checks.orders(x, "1&2");
        due("a row of three", x.keystones(), 2);
        Checks.orders(x, "0&2");
        due("a ring of three", x.keystones(), 0);
        Checks.orders(x, "2&3;3&4;4&2");
        due("two rings in one", x.keystones(), 4);
        Checks.orders(x, "10&11;11&9;4&5");
        due("and others", x.keystones(), 4 | 16 | 1 << 11);
        FearLocks row = Checks.city(all);
        Checks.orders(row, "0&1;1&2;2&3;3&4;4&5;5&6;6&7;7&8;8&9;9&10;10&11");
        due("a row", row.keystones(), 4095 & ~1 & ~(1 << 11));
        Checks.orders(row, "0&11");
        due("a ring", row.keystones(), 0);
    }

    private static void steps() {
        FearLocks x = Checks.city("a=1 a=1 a=1 . a=1 a=1 a=1 a=1 a=1 a=1 a=1 a=1");
        due("himself", x.steps(5, 5), 0);
        due("no way", x.steps(0, 1), -2);
        Checks.orders(x, "0&1;1&2;2&4;4&5;5&6;6&7;7&8;8&9;9&10;10&11");
        due("far", x.steps(0, 11), 10);
        due("and back", x.steps(11, 0), 10);
        Checks.orders(x, "1&10");
        due("a short way", x.steps(0, 11), 3);
        due("ring", x.steps(2, 9), 3);
        due("untold", x.steps(3, 0), -1);
        due("untold", x.steps(0, 3), -1);
        due("untold", x.steps(-1, 0), -1);
        due("untold", x.steps(0, 12), -1);
        FearLocks row = Checks.city("a=1 a=1 a=1 a=1 a=1 a=1 a=1 a=1 a=1 a=1 a=1 a=1");
        Checks.orders(row, "0&1;1&2;2&3;3&4;4&5;5&6;6&7;7&8;8&9;9&10;10&11");
        due("eleven", row.steps(0, 11), 11);
    }
}
