/** Promises 6 and 7, A NIGHT and DRAWS of the Terms: a test for each sentence that names a bound. */
public final class EdgesOfNightsTest {
    private static final Edges EDGES = new Edges();
    private static final int[] NO_NIGHTS = {0, -1, 101, Integer.MAX_VALUE, Integer.MIN_VALUE};

    public static void main(String[] args) {
        ofTheCall();
        ofTried();
        ofGoingOut();
        ofDoors();
        ofTheSecondHalf();
        ofTheLastNight();
        ofDraws();
        EDGES.finish();
    }

    private static void sentence(String quote, Runnable test) {
        EDGES.sentence(quote, test);
    }

    private static void due(String call, long got, long want) {
        EDGES.due(call, got, want);
    }

    private static int next(int x) {
        return (int) ((25173L * x + 13849) % 65536);
    }

    /** PEOPLE, ORDERS and THE LAW told; none where a text is empty. */
    private static FearLocks city(String people, String orders, String law) {
        FearLocks x = Checks.city(people);
        if (!orders.isEmpty()) {
            due("LINES of " + orders, Checks.orders(x, orders) > 0 ? 1 : 0, 1);
        }
        if (!law.isEmpty()) {
            due("RULES of " + law, Checks.law(x, law) > 0 ? 1 : 0, 1);
        }
        return x;
    }

    private static void goBy(FearLocks x, int nights) {
        for (int left = nights; left > 0; left -= 100) {
            x.nights(Math.min(100, left));
        }
        due("THE NIGHT", x.count(0), nights);
    }

    // ---- Promise 6

    private static void ofTheCall() {
        sentence("NIGHTS (1 to 100; as many as can) go by: how often a DOOR opened; NONE: no such n.", () -> {
            FearLocks x = city("a=50 a=50", "d0:a0", "e1(1=1)");
            for (int n : NO_NIGHTS) {
                due("nights " + n, x.nights(n), -1);
            }
            due("THE NIGHT", x.count(0), 0);
            due("X", x.count(7), 1);
            due("1", x.nights(1), 2);
            due("THE NIGHT", x.count(0), 1);
            due("100", x.nights(100), 200);
            due("THE NIGHT", x.count(0), 101);
        });
        sentence("how often a DOOR opened", () -> {
            FearLocks x = city("a=50", "d0:a50", "e1(1=1);c1(1=1)");
            due("once, then it is 49, then 50 again", x.nights(1), 1);
            due("in vain", x.nights(1), 0);
            due("by turns", x.nights(100), 50);
            FearLocks none = city("a=50", "", "e1(1=1)");
            due("no DOORS", none.nights(100), 0);
            FearLocks nobody = new FearLocks();
            due("nobody", nobody.nights(100), 0);
            due("THE NIGHT goes by", nobody.count(0), 100);
        });
    }

    // ---- Promise 7

    private static void ofTried() {
        sentence("TRIED are n NIGHTS by the DRAWS that will come (nothing is changed).", () -> {
            FearLocks x = city("a=50 b=9;c=8 c=3", "d0:a40;d1:b40;0&1;1&2", "e1+w(k<2);s1(1=1);c2(w>3)");
            Checks.feed(x, 1, 2, 3);
            int[] tried = new int[5];
            int[] asked = {0, 1, 10, 31, 50};
            for (int i = 0; i < asked.length; i++) {
                tried[i] = x.tried(9, asked[i]);
                due("the same again", x.tried(9, asked[i]), tried[i]);
            }
            due("THE NIGHT", x.count(0), 0);
            due("X", x.count(7), 1);
            due("OPENED", x.count(4), 0);
            due("the tape", x.count(6), 20);
            due("DREADS of 0", x.personIs(0, 104), 50);
            due("DREADS of 1", x.personIs(1, 104), 17);
            due("DREADS of 2", x.personIs(2, 104), 3);
            due("LINES", Checks.orders(x, "d9:a0;d9!"), 2);
            due("LINES", Checks.dreads(x, 0, "a+0"), 1);
            due("still nothing", x.count(4), 0);
            due("THE NIGHT", x.count(0), 0);
            due("DREADS of 1", x.personIs(1, 104), 17);
            due("as it goes then", x.nights(9), tried[0]);
            due("FEAR", x.personIs(0, 100), tried[2]);
            due("greatest DREAD", x.personIs(1, 101), tried[3]);
            due("OPENED", x.doorIs(0, 2), tried[4]);
        });
        sentence("NIGHTS (1 to 100; as many as can) that are tried", () -> {
            FearLocks x = city("a=50", "d0:a0", "e1(1=1)");
            for (int n : NO_NIGHTS) {
                for (int what : new int[] {0, 1, 10, 30, 50}) {
                    due("tried " + n + ", " + what, x.tried(n, what), -1);
                }
            }
            due("1", x.tried(1, 0), 1);
            due("100", x.tried(100, 0), 100);
        });
        sentence("what 0 how often a DOOR opens, 1 how often one tries in vain", () -> {
            FearLocks x = city("a=50 b=1", "d0:a50", "e1(1=1);c9(1=1)");
            due("opens", x.tried(1, 0), 1);
            due("in vain", x.tried(1, 1), 1);
            due("opens", x.tried(10, 0), 1);
            due("in vain", x.tried(10, 1), 19);
            due("opens", x.tried(11, 0), 2);
            for (int what : new int[] {-1, 2, 3, 9, Integer.MIN_VALUE, Integer.MAX_VALUE}) {
                due("tried 1, " + what, x.tried(1, what), -1);
            }
        });
        sentence("10 + p the FEAR (none: -2), 30 + p the greatest DREAD of told p then", () -> {
            FearLocks x = city("a=50 a=5;b=5 . *=0 . . . . . . . p=7", "0&11", "s90(1=1)");
            due("FEAR of 0", x.tried(1, 10), 15);
            due("two alike", x.tried(1, 11), -2);
            due("all 0", x.tried(1, 13), -2);
            due("FEAR of 11", x.tried(1, 21), 0);
            due("a again", x.tried(2, 10), 0);
            due("two alike then", x.tried(3, 10), -2);
            due("greatest of 0", x.tried(1, 30), 90);
            due("99 at most", x.tried(3, 30), 99);
            due("greatest of 1", x.tried(1, 31), 5);
            due("0", x.tried(1, 33), 0);
            due("greatest of 11", x.tried(1, 41), 90);
            for (int what : new int[] {12, 14, 20, 22, 26, 29, 32, 34, 40, 42, 46, 49}) {
                due("tried 1, " + what, x.tried(1, what), -1);
            }
        });
        sentence("50 + d OPENED of told DOOR d then; NONE: no such ones.", () -> {
            FearLocks x = city("a=50", "d0:a0;d15:a0;d7:a0;d7!", "e1(d=15)");
            due("0", x.tried(5, 50), 0);
            due("15", x.tried(5, 65), 5);
            for (int what : new int[] {51, 57, 64, 66, 82, 97, 1000}) {
                due("tried 1, " + what, x.tried(1, what), -1);
            }
            x.nights(3);
            due("with those of before", x.tried(5, 65), 8);
        });
    }

    // ---- A NIGHT (1)

    private static void ofGoingOut() {
        sentence("(1) each told one, by numbers, with a DRAW", () -> {
            FearLocks x = city("a=9 . a=9 . . . . . . . . a=9", "d0:a9", "e1(o<2);c1(1=1)");
            due("the first two", x.nights(1), 2);
            due("0", x.personIs(0, 0), 8);
            due("2", x.personIs(2, 0), 8);
            due("11 comes too late", x.personIs(11, 0), 9);
            due("three DRAWS", x.count(7), next(next(next(1))));
            FearLocks y = city("a=50 a=50 a=50", "d0:a0", "c10+w(1=1);e1(1=1)");
            y.seed(5);
            y.nights(1);
            due("by the first DRAW", y.personIs(0, 0), 40 - next(5) % 10);
            due("by the second", y.personIs(1, 0), 40 - next(next(5)) % 10);
            due("by the third", y.personIs(2, 0), 40 - next(next(next(5))) % 10);
        });
        sentence("of told DOORS he tries the one he would most (e above 0; of like ones the lowest)", () -> {
            FearLocks x = city("a=50", "d2:a0;d3:a0;d9:a0;d15:a0;d15!;d0:a0;d0!", "e1(1=1)");
            due("the lowest of told ones", x.nights(1), 1);
            due("2", x.doorIs(2, 2), 1);
            Checks.law(x, "e7(d=9|d=3);e6(1=1)");
            x.nights(1);
            due("the lowest of the two", x.doorIs(3, 2), 1);
            Checks.law(x, "ed(1=1)");
            x.nights(1);
            due("the last", x.doorIs(9, 2), 1);
            Checks.law(x, "e0(1=1)");
            due("not above 0", x.nights(1), 0);
            due("nothing in vain", x.tried(1, 1), 0);
            Checks.law(x, "e1(d=15|d=0)");
            due("those are not told", x.nights(1), 0);
            due("DREAD", x.personIs(0, 0), 50);
        });
        sentence("does he OPEN it, OPENED is one more, his DREAD of its FEAR c less (0 at least)", () -> {
            FearLocks x = city("a=50 b=3 c=3", "d0:a0;d1:b0;d2:c0", "e1(d=k);c2(k=1);c3(k=2);c60(1=1)");
            due("three", x.nights(1), 3);
            due("0 at least", x.personIs(0, 0), 0);
            due("2 less", x.personIs(1, 1), 1);
            due("3 less", x.personIs(2, 2), 0);
            due("OPENED", x.doorIs(1, 2), 1);
            due("only one has a FEAR", x.nights(1), 1);
            due("in vain: one more", x.personIs(0, 0), 1);
            due("2 less", x.personIs(1, 1), 0);
        });
        sentence("else his DREAD of it is one more (99 at most)", () -> {
            FearLocks x = city("a=98;b=98 a=99;b=99 *=0", "d0:a99;d1:b99", "e1(d=0)");
            due("nobody OPENS it", x.nights(1), 0);
            due("99", x.personIs(0, 0), 99);
            due("99 at most", x.personIs(1, 0), 99);
            due("from 0", x.personIs(2, 0), 1);
            due("now one does", x.nights(1), 1);
            due("99", x.personIs(0, 0), 99);
            due("99 at most", x.personIs(1, 0), 99);
            due("of no other one", x.personIs(1, 104), 198);
        });
        sentence("(c asked ahead)", () -> {
            FearLocks x = city("a=50", "d0:a0", "e1(1=1);c1+10*o+v-g(1=1)");
            x.nights(1);
            due("o 0 and v 50", x.personIs(0, 0), 49);
            x.nights(1);
            due("o 1 and v 49", x.personIs(0, 0), 38);
        });
    }

    // ---- DOORS of the Terms

    private static void ofDoors() {
        sentence("one OPENS a DOOR if his FEAR is that of it and his DREAD of it no less than STRENGTH", () -> {
            FearLocks x = city("a=9 a=9;b=8 a=9;b=9 b=99;a=98 *=0", "d0:a9;d1:a10;d2:a8;d3:b9;d4:a0;d5:b99", "");
            due("0", x.personIs(0, 103), 1 | 4 | 16);
            due("1", x.personIs(1, 103), 1 | 4 | 16);
            due("two alike", x.personIs(2, 103), 0);
            due("3", x.personIs(3, 103), 8 | 32);
            due("all 0", x.personIs(4, 103), 0);
        });
        sentence("OPENED (how often; 0 at first; 9999 at most, then it opens all the same)", () -> {
            FearLocks x = city("a=50 a=50;b=9 a=50", "d0:a0;d1:a0", "e1(d=0)");
            due("0 at first", x.doorIs(0, 2), 0);
            for (int i = 0; i < 33; i++) {
                x.nights(100);
            }
            x.nights(32);
            due("9996", x.doorIs(0, 2), 9996);
            due("three times", x.nights(1), 3);
            due("9999", x.doorIs(0, 2), 9999);
            due("it opens all the same when tried", x.tried(1, 0), 3);
            due("9999 when tried", x.tried(1, 50), 9999);
            Checks.law(x, "e1(d=0);c1(1=1)");
            due("it opens all the same", x.nights(1), 3);
            due("9999 at most", x.doorIs(0, 2), 9999);
            due("with all that goes with it", x.personIs(0, 0), 49);
            due("of all", x.count(4), 9999);
            Checks.law(x, "e1(d=1)");
            x.nights(1);
            due("of all, more than of one", x.count(4), 10002);
        });
        sentence("OPENED (how often; 0 at first; 9999 at most, then it opens all the same)", () -> {
            FearLocks x = city("a=50 a=50", "d0:a0", "e1(1=1)");
            for (int i = 0; i < 49; i++) {
                x.nights(100);
            }
            x.nights(99);
            due("9998", x.doorIs(0, 2), 9998);
            due("twice", x.nights(1), 2);
            due("9999 and no more", x.doorIs(0, 2), 9999);
        });
    }

    // ---- A NIGHT (2)

    private static void ofTheSecondHalf() {
        sentence("(2) Of all twos who KNOW each other", () -> {
            FearLocks x = city("a=50 b=50 c=50 . . . . . . . . p=50", "0&1;1&11", "s3(1=1)");
            x.nights(1);
            due("0 of 1", x.personIs(0, 1), 3);
            due("0 of no other one", x.personIs(0, 104), 53);
            due("1 of 0 and 11", x.personIs(1, 0) + x.personIs(1, 15), 6);
            due("2 of nobody", x.personIs(2, 104), 50);
            due("11 of 1", x.personIs(11, 1), 3);
            due("11 of no other one", x.personIs(11, 104), 53);
        });
        sentence("if the one he KNOWS has a FEAR, his DREAD of it is s more (99 at most)", () -> {
            FearLocks x = city("a=98 a=50;b=50 *=0 a=97", "0&1;0&2;0&3;1&3", "s2(1=1)");
            x.nights(1);
            due("of 3; 1 and 2 have no FEAR", x.personIs(0, 104), 99);
            due("of 0 and 3: 52 and 54", x.personIs(1, 0), 54);
            due("of 0", x.personIs(2, 0), 2);
            due("of 0; 1 has no FEAR", x.personIs(3, 104), 99);
            x.nights(1);
            due("99 at most", x.personIs(0, 0), 99);
            due("99 at most", x.personIs(3, 0), 99);
        });
        sentence("FEARS, and all that s asks, are as they were behind (1)", () -> {
            FearLocks x = city("a=9;b=1 b=9 c=9", "0&1;0&2;1&2", "s20(k<2);sv+g(1=1)");
            x.nights(1);
            due("0 of b", x.personIs(0, 1), 21);
            due("0 of c", x.personIs(0, 2), 20);
            due("1 of a, as 0 had it", x.personIs(1, 0), 20);
            due("2 of a: 0 and 9", x.personIs(2, 0), 9);
            due("2 of b: 0 and 9", x.personIs(2, 1), 9);
            FearLocks y = city("a=9;b=9 a=8", "0&1;d0:b99", "e1(k=0);sv(1=1)");
            y.nights(1);
            due("what came to him at the DOOR is his FEAR", y.personIs(1, 1), 0);
            due("v of b is 0, of a 9", y.personIs(0, 0), 18);
            Checks.law(y, "s5(1=1)");
            y.nights(1);
            due("then a is", y.personIs(1, 0), 13);
        });
        sentence("what is more is added one by one", () -> {
            FearLocks x = city("b=1 a=9 a=8 a=7", "0&1;0&2;0&3", "s40(k=0)");
            x.nights(1);
            due("40 and 40 and 40, 99 at most", x.personIs(0, 0), 99);
            FearLocks y = city("b=1 a=9 a=8 a=7", "0&1;0&2;0&3", "sd*10(k=0)");
            y.nights(1);
            due("10 and 20 and 30", y.personIs(0, 0), 60);
        });
    }

    private static void ofTheLastNight() {
        sentence("THE NIGHT is one more (9999 at most: then none goes by).", () -> {
            FearLocks x = city("a=50 b=50", "d0:a0;0&1", "e1(k=0);s1(t=99)");
            goBy(x, 9900);
            Checks.law(x, "e1(k=0)");
            due("as many as can are tried", x.tried(100, 0), 99);
            due("98", x.nights(98), 98);
            due("9998", x.count(0), 9998);
            due("the last one", x.tried(2, 0), 1);
            due("the last one", x.nights(100), 1);
            due("9999", x.count(0), 9999);
            int seed = x.count(7);
            int dread = x.personIs(0, 104);
            int opened = x.count(4);
            Checks.law(x, "e1(1=1);s9(1=1);c9(1=1)");
            due("none goes by", x.nights(100), 0);
            due("9999", x.count(0), 9999);
            due("no DRAW", x.count(7), seed);
            due("no DREAD", x.personIs(0, 104), dread);
            due("no DOOR", x.count(4), opened);
            due("none is tried", x.tried(1, 0), 0);
            due("nothing in vain", x.tried(100, 1), 0);
            due("FEAR as it is", x.tried(100, 10), x.personIs(0, 100));
            due("greatest DREAD as it is", x.tried(100, 31), x.personIs(1, 101));
            due("OPENED as it is", x.tried(100, 50), opened);
            due("0 is still no n", x.nights(0), -1);
        });
    }

    private static void ofDraws() {
        sentence("DRAWS: X = (25173 X + 13849) modulo 65536 (X is THE SEED at first, 1): X modulo 10.", () -> {
            FearLocks x = city("a=50", "", "");
            due("THE SEED", x.count(7), 1);
            int seed = 1;
            for (int i = 0; i < 40; i++) {
                seed = next(seed);
                x.nights(1);
                due("X", x.count(7), seed);
            }
            x.seed(65535);
            x.nights(1);
            due("the greatest X", x.count(7), 54212);
            x.seed(0);
            x.nights(1);
            due("the least X", x.count(7), 13849);
        });
        sentence("X modulo 10", () -> {
            FearLocks x = city("a=99", "d0:a0", "e1(1=1);cw(1=1)");
            int seed = 777;
            x.seed(seed);
            int dread = 99;
            for (int i = 0; i < 12; i++) {
                x.nights(1);
                seed = next(seed);
                dread = Math.max(0, dread - seed % 10);
                due("c by the DRAW", x.personIs(0, 0), dread);
            }
        });
    }
}
