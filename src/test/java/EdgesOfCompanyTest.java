/** Promises 13 to 20: a test for each sentence that names a bound. */
public final class EdgesOfCompanyTest {
    private static final Edges EDGES = new Edges();
    private static final String TWELVE = "a=1 b=1 c=1 d=1 e=1 f=1 g=1 h=1 i=1 j=1 k=1 l=1";
    private static final String ROW = "0&1;1&2;2&3;3&4;4&5;5&6;6&7;7&8;8&9;9&10;10&11";
    /** No PEOPLE where only 0 and 2 are told. */
    private static final int[] UNTOLD = {-1, 1, 3, 11, 12, 32, 34, 100, Integer.MIN_VALUE, Integer.MAX_VALUE};

    public static void main(String[] args) {
        ofCouples();
        ofFashion();
        ofFears();
        ofLikeOnes();
        ofCircles();
        ofKeystones();
        ofSteps();
        EDGES.finish();
    }

    private static void sentence(String quote, Runnable test) {
        EDGES.sentence(quote, test);
    }

    private static void due(String call, long got, long want) {
        EDGES.due(call, got, want);
    }

    private static FearLocks city(String people, String orders) {
        FearLocks x = Checks.city(people);
        due("LINES of " + orders, Checks.orders(x, orders) > 0 ? 1 : 0, 1);
        return x;
    }

    private static void ofCouples() {
        sentence("COUPLES: the most twos, nobody in two of them, who both DREAD one and the same FEAR so much at least (1 to 99).",
            () -> {
                FearLocks x = Checks.city("a=10;b=5 a=10 b=5");
                due("one of three", x.couples(1), 1);
                due("as much as 10", x.couples(10), 1);
                due("not 11", x.couples(11), 0);
                FearLocks row = Checks.city("a=9 ab=9 bc=9 c=9");
                due("by the ends, not the midst", row.couples(9), 2);
                FearLocks unlike = Checks.city("a=9 b=9 c=9");
                due("not one and the same", unlike.couples(1), 0);
                due("twelve alike", Checks.city("*=99 " + "*=99 ".repeat(10) + "*=99").couples(99), 6);
                due("eleven alike", Checks.city("*=99 " + "*=99 ".repeat(10)).couples(99), 5);
            });
        sentence("COUPLES by so much (1 to 99): how many; NONE: no such number.", () -> {
            FearLocks x = Checks.city("a=1;p=99 a=1;p=99");
            due("1", x.couples(1), 1);
            due("99", x.couples(99), 1);
            for (int much : new int[] {0, -1, 100, Integer.MIN_VALUE, Integer.MAX_VALUE}) {
                due("couples " + much, x.couples(much), -1);
            }
            due("nobody", new FearLocks().couples(1), 0);
            due("one alone", Checks.city("*=99").couples(1), 0);
            due("nothing is no DREAD", Checks.city("*=0 *=0").couples(1), 0);
        });
    }

    private static void ofFashion() {
        sentence("each one who KNOWS at least so many (1 to 11) who have it", () -> {
            FearLocks x = city("a=1 a=1 a=1 b=1 b=1 b=1", "3&0;4&0;4&1;5&0;5&1;5&2");
            due("by 1", x.fashion(0, 1, 0), 63);
            due("by 2", x.fashion(0, 2, 0), 7 | 16 | 32);
            due("by 3", x.fashion(0, 3, 0), 7 | 32);
            due("by 4", x.fashion(0, 4, 0), 7);
            FearLocks all = city("a=1 a=1 a=1 a=1 a=1 a=1 a=1 a=1 a=1 a=1 a=1 b=1",
                "0&11;1&11;2&11;3&11;4&11;5&11;6&11;7&11;8&11;9&11;10&11");
            due("by 11", all.fashion(0, 11, 0), 4095);
            due("by 11", all.fashion(0, 11, 1), 1);
            Checks.orders(all, "10/11");
            due("10 of them", all.fashion(0, 11, 0), 2047);
            due("10 of them", all.fashion(0, 10, 0), 4095);
        });
        sentence("then, round by round, all at once", () -> {
            FearLocks x = city(TWELVE, ROW);
            due("by 1 to the last", x.fashion(0, 1, 0), 4095);
            due("one a round", x.fashion(0, 1, 1), 11);
            due("from the other end", x.fashion(11, 1, 1), 11);
            due("from the midst", x.fashion(5, 1, 1), 6);
        });
        sentence("how many rounds there are in which somebody comes to have it", () -> {
            FearLocks x = city("a=1 b=1 *=0 a=2", "0&1");
            due("one", x.fashion(0, 1, 1), 1);
            due("none", x.fashion(0, 2, 1), 0);
            due("all KNOW nobody", x.fashion(0, 2, 0), 9);
            due("nobody has it at first", x.fashion(2, 1, 1), 0);
            due("nobody has it in the end", x.fashion(2, 1, 0), 0);
            due("nobody is told", new FearLocks().fashion(15, 1, 0), 0);
            due("nobody is told", new FearLocks().fashion(15, 1, 1), 0);
        });
        sentence("FASHION of a FEAR (0 to 15) by so many (1 to 11), what 0 who (bits), 1 rounds; NONE: no such ones.", () -> {
            FearLocks x = city("p=1 a=1", "0&1");
            due("15", x.fashion(15, 11, 0), 1);
            due("0", x.fashion(0, 1, 0), 3);
            for (int f : new int[] {-1, 16, 32, Integer.MIN_VALUE, Integer.MAX_VALUE}) {
                due("fashion of " + f, x.fashion(f, 1, 0), -1);
            }
            for (int least : new int[] {0, -1, 12, Integer.MIN_VALUE, Integer.MAX_VALUE}) {
                due("fashion by " + least, x.fashion(0, least, 1), -1);
            }
            for (int what : new int[] {-1, 2, Integer.MIN_VALUE, Integer.MAX_VALUE}) {
                due("fashion, " + what, x.fashion(0, 1, what), -1);
            }
        });
    }

    private static void ofFears() {
        sentence("NOBODY'S are FEARS of which all told PEOPLE have DREAD 0; ALL'S those of which all have some.", () -> {
            FearLocks x = Checks.city("a=1;p=99 . a=99;b=1");
            due("nobody's", x.fears(0), 65535 & ~(1 | 2 | 1 << 15));
            due("all's", x.fears(1), 1);
            FearLocks all = Checks.city("*=1 *=99");
            due("nobody's", all.fears(0), 0);
            due("all's", all.fears(1), 65535);
            FearLocks one = Checks.city(". . *=0");
            due("nobody's", one.fears(0), 65535);
            due("all's", one.fears(1), 0);
        });
        sentence("What 0 NOBODY'S, 1 ALL'S FEARS (bits; no PEOPLE: 65535 both); NONE: no such what.", () -> {
            FearLocks x = new FearLocks();
            due("no PEOPLE", x.fears(0), 65535);
            due("no PEOPLE", x.fears(1), 65535);
            for (int what : new int[] {-1, 2, 100, Integer.MIN_VALUE, Integer.MAX_VALUE}) {
                due("fears " + what, x.fears(what), -1);
            }
        });
    }

    private static void ofLikeOnes() {
        sentence("LIKE: two told ones (any); NONE: no such ones.", () -> {
            FearLocks x = Checks.city("*=99 . *=0");
            due("as far as can be", x.unlike(0, 2), 1584);
            due("the other way round", x.unlike(2, 0), 1584);
            due("one and himself", x.unlike(0, 0), 0);
            for (int p : UNTOLD) {
                due("unlike " + p, x.unlike(p, 0), -1);
                due("unlike to " + p, x.unlike(0, p), -1);
                due("unlike himself " + p, x.unlike(p, p), -1);
            }
        });
        sentence("the one most like one (of like ones the lowest)", () -> {
            FearLocks x = Checks.city("a=9 a=5 a=7 a=5 a=3 . . . . . . a=90");
            due("of 2: 0, 1 and 3 by 2", x.mostLike(2), 0);
            due("of 4: 1 and 3", x.mostLike(4), 1);
            due("of 1: 3 by 0", x.mostLike(1), 3);
            due("of 3: 1 by 0", x.mostLike(3), 1);
            due("of 11: 0", x.mostLike(11), 0);
            FearLocks far = Checks.city(". . *=0 . . . . . . . . *=99");
            due("1584 away", far.mostLike(2), 11);
            due("1584 away", far.mostLike(11), 2);
        });
        sentence("The one most LIKE a told one; -2: there is no other; NONE: no such one.", () -> {
            FearLocks x = Checks.city("a=9");
            due("no other", x.mostLike(0), -2);
            FearLocks y = Checks.city("a=9 . b=9");
            for (int p : UNTOLD) {
                due("mostLike " + p, y.mostLike(p), -1);
            }
            due("nobody is told", new FearLocks().mostLike(0), -1);
            due("an untold one, and no other", x.mostLike(1), -1);
        });
    }

    private static void ofCircles() {
        sentence("CIRCLES of PEOPLE each of whom is unlike some other one in it by no more than so much: how many; one's (bits).",
            () -> {
                FearLocks x = Checks.city("a=10 a=20 . a=29 a=40");
                due("by 8: each alone", x.circles(8, 100), 4);
                due("by 9", x.circles(9, 100), 3);
                due("by 9", x.circles(9, 1), 2 | 8);
                due("by 9 0 is alone", x.circles(9, 0), 1);
                due("by 10: one by one", x.circles(10, 0), 1 | 2 | 8);
                due("by 11: all", x.circles(11, 4), 27);
                due("one", x.circles(11, 100), 1);
            });
        sentence("CIRCLES by so much (0 to 1584), what 100 how many (nobody: 0), else that of told one what (bits); "
            + "NONE: no such ones.", () -> {
                FearLocks x = Checks.city("*=99 . *=0 *=99");
                due("0: like ones", x.circles(0, 100), 2);
                due("0: like ones", x.circles(0, 3), 9);
                due("1583", x.circles(1583, 100), 2);
                due("1584", x.circles(1584, 100), 1);
                due("1584", x.circles(1584, 2), 13);
                due("0 again", x.circles(0, 100), 2);
                due("0 again", x.circles(0, 2), 4);
                for (int much : new int[] {-1, 1585, Integer.MIN_VALUE, Integer.MAX_VALUE}) {
                    due("circles by " + much, x.circles(much, 100), -1);
                    due("circles by " + much, x.circles(much, 0), -1);
                }
                for (int what : new int[] {-1, 1, 4, 12, 32, 99, 101, Integer.MIN_VALUE, Integer.MAX_VALUE}) {
                    due("circles, " + what, x.circles(0, what), -1);
                }
                due("nobody", new FearLocks().circles(0, 100), 0);
                due("nobody", new FearLocks().circles(1584, 100), 0);
                due("one alone", Checks.city("a=1").circles(0, 100), 1);
                due("all alone", Checks.city(TWELVE).circles(1, 100), 12);
                due("all in one", Checks.city(TWELVE).circles(2, 11), 4095);
            });
    }

    private static void ofKeystones() {
        sentence("KEYSTONES: PEOPLE without whom two others that hang together by who KNOWS whom would not: bits.", () -> {
            due("nobody", new FearLocks().keystones(), 0);
            due("one", Checks.city("a=1").keystones(), 0);
            FearLocks x = city(TWELVE, "0&1");
            due("two", x.keystones(), 0);
            Checks.orders(x, "1&11");
            due("one between two", x.keystones(), 2);
            Checks.orders(x, "0&11");
            due("each beside each", x.keystones(), 0);
            Checks.orders(x, "11&10;11/1;11/0");
            due("two twos", x.keystones(), 0);
            Checks.orders(x, ROW);
            due("a row but for its ends", x.keystones(), 4095 & ~1 & ~(1 << 11));
            Checks.orders(x, "11&0");
            due("a ring", x.keystones(), 0);
            Checks.orders(x, "0/1");
            due("a row again", x.keystones(), 4095 & ~1 & ~2);
            FearLocks first = city(TWELVE, "1&0;0&2;11&10;9&11");
            due("the first and the last of PEOPLE", first.keystones(), 1 | 1 << 11);
            FearLocks star = city(TWELVE, "0&5;1&5;2&5;3&5;4&5;6&5;7&5;8&5;9&5;10&5;11&5");
            due("one in the midst", star.keystones(), 32);
        });
    }

    private static void ofSteps() {
        sentence("STEPS between two told ones (any); -2: no way; NONE: no such ones.", () -> {
            FearLocks x = city(TWELVE, ROW);
            due("himself", x.steps(3, 3), 0);
            due("one", x.steps(3, 4), 1);
            due("the longest way", x.steps(0, 11), 11);
            due("and back", x.steps(11, 0), 11);
            Checks.orders(x, "5/6");
            due("no way", x.steps(0, 11), -2);
            due("no way", x.steps(6, 5), -2);
            due("up to there", x.steps(0, 5), 5);
            due("himself, still", x.steps(11, 11), 0);
            Checks.orders(x, "0&5;11&0");
            due("the shortest", x.steps(5, 11), 2);
            due("round about", x.steps(3, 6), 3 + 1 + 5);
            FearLocks y = Checks.city("a=1 . b=1");
            due("they KNOW nobody", y.steps(0, 2), -2);
            for (int p : UNTOLD) {
                due("steps from " + p, y.steps(p, 0), -1);
                due("steps to " + p, y.steps(0, p), -1);
                due("steps from " + p + " to himself", y.steps(p, p), -1);
            }
        });
    }
}
