/** Promises 6 and 7: NIGHTS that go by and NIGHTS that are tried. */
public final class NightsTest {
    private static final Checks CHECKS = new Checks();

    public static void main(String[] args) {
        draws();
        doorsTried();
        changesOneByOne();
        whoStaysIn();
        dreadIsCaught();
        dreadIsCaughtFromBehind();
        lettersOfS();
        lettersOfX();
        tried();
        bounds();
        refused();
        CHECKS.finish();
    }

    private static void due(String call, long got, long want) {
        CHECKS.due(call, got, want);
    }

    private static void draws() {
        FearLocks x = Checks.city("a=9 . b=9 c=9");
        due("nights", x.nights(1), 0);
        int seed = 1;
        for (int i = 0; i < 3; i++) {
            seed = (25173 * seed + 13849) % 65536;
        }
        due("a DRAW for each told one", x.count(7), seed);
        due("THE NIGHT", x.count(0), 1);
        Checks.orders(x, "d0:a9");
        Checks.law(x, "x(1=1);e1(1=1)");
        for (int i = 0; i < 15; i++) {
            seed = (25173 * seed + 13849) % 65536;
        }
        due("none goes out", x.nights(5), 0);
        due("a DRAW for who stays in, too", x.count(7), seed);
        due("THE NIGHT", x.count(0), 6);
        FearLocks nobody = new FearLocks();
        due("nobody", nobody.nights(100), 0);
        due("no DRAWS", nobody.count(7), 1);
        due("THE NIGHT", nobody.count(0), 100);
    }

    private static void doorsTried() {
        FearLocks x = Checks.city("a=50");
        Checks.orders(x, "d2:b5;d4:a50;d5:a50;d9:a51");
        Checks.law(x, "e5(d=4|d=5);e4(d=2);e0(1=1)");
        due("the lowest of like ones", x.nights(1), 1);
        due("OPENED", x.doorIs(4, 2), 1);
        due("OPENED", x.doorIs(5, 2), 0);
        due("no c: no less", x.personIs(0, 0), 50);
        Checks.law(x, "e9(d=9);e5(d=4)");
        due("in vain", x.nights(1), 0);
        due("more", x.personIs(0, 0), 51);
        due("it opens", x.nights(2), 2);
        due("OPENED", x.doorIs(9, 2), 2);
        Checks.law(x, "e20000(d=5);e9999(d=4)");
        due("9999 at most: like ones", x.nights(1), 1);
        due("OPENED", x.doorIs(4, 2), 2);
        Checks.law(x, "e0-5(1=1)");
        due("none that he would", x.nights(1), 0);
        due("DREAD stays", x.personIs(0, 104), 51);
        Checks.law(x, "e0(d=2);e1(d=2)");
        due("the first RULE that holds", x.nights(1), 0);
        due("DREAD stays", x.personIs(0, 104), 51);
        Checks.law(x, "ew(d=2);x(k=5)");
        x.seed(1);
        due("the DRAW is 2", x.nights(1), 0);
        due("he tried in vain", x.personIs(0, 1), 1);
        Checks.law(x, "c9(1=1)");
        due("without e none goes", x.nights(1), 0);
        due("DREAD stays", x.personIs(0, 104), 52);
    }

    private static void changesOneByOne() {
        FearLocks x = Checks.city("a=9 a=9 a=9");
        Checks.orders(x, "d0:a9;d1:a1");
        Checks.law(x, "e9(d=0&o<2);e1(d=1);c5*[o+1](1=1)");
        due("all open", x.nights(1), 3);
        due("o is as it was ahead", x.personIs(0, 0), 4);
        due("then one more", x.personIs(1, 0), 0);
        due("the third one goes elsewhere", x.personIs(2, 0), 4);
        due("OPENED", x.doorIs(0, 2), 2);
        due("OPENED", x.doorIs(1, 2), 1);
        due("what he has left of it is nothing", x.personIs(1, 100), -2);
        FearLocks y = Checks.city("a=9");
        Checks.orders(y, "d0:a9");
        Checks.law(y, "e1(1=1);cv-g+o+t*2+3(1=1)");
        due("nights", y.nights(1), 1);
        due("c is asked ahead", y.personIs(0, 0), 6);
        due("in vain three times", y.nights(3), 0);
        due("9 again", y.personIs(0, 0), 9);
        due("it opens", y.nights(1), 1);
        due("1 + 8 + 3", y.personIs(0, 0), 0);
        FearLocks z = Checks.city("*=99;b=98");
        Checks.orders(z, "d0:b0");
        Checks.law(z, "e1(1=1)");
        due("in vain", z.nights(3), 0);
        due("99 at most", z.personIs(0, 1), 99);
    }

    private static void whoStaysIn() {
        FearLocks x = Checks.city("a=9 a=9 a=9");
        Checks.orders(x, "d0:a5");
        Checks.law(x, "x(k=0);x(k=2&t=1);e1(1=1)");
        due("two of them", x.nights(1), 2);
        due("one of them", x.nights(1), 1);
        due("two of them", x.nights(1), 2);
        Checks.law(x, "e1(1=1);x(w<6)");
        x.seed(1);
        int seed = 1;
        int out = 0;
        for (int i = 0; i < 300; i++) {
            seed = (25173 * seed + 13849) % 65536;
            out += seed % 10 < 6 ? 0 : 1;
        }
        due("by the DRAW", x.nights(100), out);
        due("X", x.count(7), seed);
    }

    private static void dreadIsCaught() {
        FearLocks x = Checks.city("a=9;c=1 b=20 c=30 d=5;e=5");
        Checks.orders(x, "0&1;1&2;2&3");
        Checks.law(x, "s3(1=1)");
        due("nobody goes out", x.nights(1), 0);
        due("of 1", x.personIs(0, 1), 3);
        due("of 0 and of 2", x.personIs(1, 0), 3);
        due("of 0 and of 2", x.personIs(1, 2), 3);
        due("of 1; 3 has no FEAR", x.personIs(2, 1), 3);
        due("in all", x.personIs(2, 104), 33);
        due("of 2", x.personIs(3, 2), 3);
        due("his own", x.personIs(0, 0), 9);
        due("not of one he does not KNOW", x.personIs(0, 2), 1);
        Checks.law(x, "s97(1=1)");
        x.nights(1);
        due("99 at most", x.personIs(0, 1), 99);
        FearLocks y = Checks.city("a=5 a=6 a=7");
        Checks.orders(y, "0&1;0&2;1&2");
        Checks.law(y, "s2(1=1)");
        y.nights(1);
        due("from both", y.personIs(0, 0), 9);
        due("from both", y.personIs(1, 0), 10);
        due("from both", y.personIs(2, 0), 11);
    }

    private static void dreadIsCaughtFromBehind() {
        FearLocks x = Checks.city("a=9 b=9 c=9;b=2");
        Checks.orders(x, "0&1;0&2;1&2");
        Checks.law(x, "sv+10(1=1)");
        x.nights(1);
        due("of 1", x.personIs(0, 1), 10);
        due("of 2", x.personIs(0, 2), 10);
        due("the FEARS are as they were", x.personIs(1, 0), 10);
        due("of 2", x.personIs(1, 2), 10);
        due("with what he has", x.personIs(2, 1), 14);
        due("of 0", x.personIs(2, 0), 10);
        FearLocks y = Checks.city("a=9 a=5;b=5");
        Checks.orders(y, "0&1;d0:b9");
        Checks.law(y, "e1(k=1);sg(1=1)");
        y.nights(1);
        due("he came to have a FEAR at the DOOR", y.personIs(0, 1), 9);
        due("of 0", y.personIs(1, 0), 11);
        due("tried in vain", y.personIs(1, 1), 6);
    }

    private static void lettersOfS() {
        String[] laws = {"sk+20(1=1)", "sd+20(1=1)", "sf+20(1=1)", "sv+20(1=1)", "sg+20(1=1)", "sm+20(1=1)", "sn+20(1=1)",
            "so+20(1=1)", "st+20(1=1)", "sw+20(1=1)"};
        int[] more = {3, 5, 4, 12, 30, 0, 2, 0, 7, 0};
        for (int i = 0; i < laws.length; i++) {
            FearLocks x = Checks.city(". . . a=30;e=12 . e=40 a=1;b=1");
            Checks.orders(x, "3&5;3&6;d9:e50");
            x.nights(7);
            Checks.law(x, laws[i]);
            x.nights(1);
            due("more by " + laws[i], x.personIs(3, 4), Math.min(99, 12 + 20 + more[i]));
        }
    }

    private static void lettersOfX() {
        String[] hold = {"k=3", "d=0", "f=0", "v=0", "g=30", "m=0", "n=1", "o=0", "t=2", "w=2"};
        for (String c : hold) {
            FearLocks x = Checks.city(". . . a=30;e=12 . e=40");
            Checks.orders(x, "3&5;d9:a12");
            Checks.law(x, "e1(k=3)");
            x.nights(2);
            x.seed(1);
            due("it opens", x.doorIs(9, 2), 2);
            Checks.law(x, "e1(k=3);x(" + c + ")");
            due("in by " + c, x.nights(1), 0);
        }
    }

    private static void tried() {
        FearLocks x = Checks.city("a=50 b=5;c=5 . d=9");
        Checks.orders(x, "d0:a50;d4:d99;0&1");
        Checks.law(x, "e9(k>0&d=4);e1(1=1);c30(1=1);s1(k=1)");
        due("it opens", x.tried(1, 0), 1);
        due("once more is too much", x.tried(2, 0), 1);
        due("in vain", x.tried(1, 1), 2);
        due("in vain", x.tried(3, 1), 8);
        due("FEAR", x.tried(1, 10), 0);
        due("no FEAR", x.tried(1, 11), -2);
        due("FEAR caught and tried", x.tried(6, 11), -2);
        due("FEAR", x.tried(1, 13), 3);
        due("greatest", x.tried(1, 30), 20);
        due("greatest", x.tried(2, 30), 21);
        due("greatest", x.tried(90, 33), 99);
        due("cured", x.tried(91, 33), 69);
        due("OPENED", x.tried(1, 50), 1);
        due("OPENED", x.tried(32, 50), 2);
        due("OPENED", x.tried(1, 54), 0);
        due("nothing is changed", x.personIs(0, 0), 50);
        due("THE NIGHT", x.count(0), 0);
        due("X", x.count(7), 1);
        due("OPENED", x.doorIs(0, 2), 0);
        int openings = x.tried(32, 0);
        due("openings", openings, 2);
        due("as many as were tried", x.nights(32), openings);
    }

    private static void bounds() {
        FearLocks x = Checks.city("a=50 a=50");
        Checks.orders(x, "d0:a0");
        Checks.law(x, "e1(1=1)");
        for (int i = 0; i < 99; i++) {
            due("nights", x.nights(100), 200);
        }
        due("OPENED 9999 at most", x.doorIs(0, 2), 9999);
        due("THE NIGHT", x.count(0), 9900);
        due("as many as can are tried", x.tried(100, 0), 198);
        due("as many as can", x.nights(100), 198);
        due("THE NIGHT", x.count(0), 9999);
        int seed = x.count(7);
        due("none goes by", x.nights(1), 0);
        due("none is tried", x.tried(5, 0), 0);
        due("FEAR then", x.tried(5, 10), 0);
        due("X", x.count(7), seed);
        due("THE NIGHT", x.count(0), 9999);
        due("of all", x.count(4), 9999);
    }

    private static void refused() {
        FearLocks x = Checks.city("a=50 . b=1");
        Checks.orders(x, "d3:a0");
        int[] wrong = {0, -1, 101, Integer.MAX_VALUE, Integer.MIN_VALUE};
        for (int n : wrong) {
            due("nights " + n, x.nights(n), -1);
            due("tried " + n, x.tried(n, 0), -1);
        }
        int[] what = {-1, 2, 9, 11, 13, 21, 22, 29, 31, 33, 41, 42, 49, 50, 52, 54, 65, 66, 1000, Integer.MAX_VALUE,
            Integer.MIN_VALUE};
        for (int w : what) {
            due("tried " + w, x.tried(1, w), -1);
        }
        due("tried 12", x.tried(1, 12), 1);
        due("tried 32", x.tried(1, 32), 1);
        due("tried 53", x.tried(1, 53), 0);
        due("THE NIGHT", x.count(0), 0);
    }
}
