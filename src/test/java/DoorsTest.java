/** Promises 8 to 12: PEOPLE, DOORS, TAUGHT, A CREW, LODGINGS. */
public final class DoorsTest {
    private static final Checks CHECKS = new Checks();

    public static void main(String[] args) {
        people();
        doors();
        taught();
        crew();
        lodgings();
        CHECKS.finish();
    }

    private static void due(String call, long got, long want) {
        CHECKS.due(call, got, want);
    }

    private static void people() {
        FearLocks x = Checks.city("a=9;p=3 a=5;b=5 *=0 p=1");
        Checks.orders(x, "0&3;0&2;d0:a9;d1:a10;d2:p0;d3:p1;d4:b5");
        due("DREAD", x.personIs(0, 0), 9);
        due("DREAD", x.personIs(0, 15), 3);
        due("DREAD", x.personIs(0, 1), 0);
        due("FEAR", x.personIs(0, 100), 0);
        due("two alike", x.personIs(1, 100), -2);
        due("all 0", x.personIs(2, 100), -2);
        due("FEAR", x.personIs(3, 100), 15);
        due("greatest", x.personIs(0, 101), 9);
        due("greatest", x.personIs(1, 101), 5);
        due("greatest", x.personIs(2, 101), 0);
        due("KNOWS", x.personIs(0, 102), 12);
        due("KNOWS", x.personIs(1, 102), 0);
        due("OPENS", x.personIs(0, 103), 1);
        due("OPENS", x.personIs(1, 103), 0);
        due("OPENS", x.personIs(2, 103), 0);
        due("OPENS", x.personIs(3, 103), 12);
        due("in all", x.personIs(0, 104), 12);
        int[] wrong = {-1, 16, 99, 105, 1000, Integer.MIN_VALUE, Integer.MAX_VALUE};
        for (int what : wrong) {
            due("what " + what, x.personIs(0, what), -1);
        }
        int[] untold = {-1, 4, 11, 12, 31, 32, 33, Integer.MIN_VALUE, Integer.MAX_VALUE};
        for (int p : untold) {
            due("who " + p, x.personIs(p, 0), -1);
            due("who " + p, x.personIs(p, 100), -1);
        }
    }

    private static void doors() {
        FearLocks x = Checks.city("a=9 a=5 a=4 a=99;b=99 b=7");
        Checks.orders(x, "d0:a5;d15:b0;d7:c0");
        due("FEAR", x.doorIs(15, 0), 1);
        due("STRENGTH", x.doorIs(0, 1), 5);
        due("OPENED", x.doorIs(0, 2), 0);
        due("who", x.doorIs(0, 3), 3);
        due("who", x.doorIs(15, 3), 16);
        due("who", x.doorIs(7, 3), 0);
        due("what", x.doorIs(0, 4), -1);
        due("what", x.doorIs(0, -1), -1);
        int[] untold = {-1, 1, 14, 16, 32, 47, Integer.MIN_VALUE, Integer.MAX_VALUE};
        for (int d : untold) {
            due("DOOR " + d, x.doorIs(d, 0), -1);
            due("DOOR " + d, x.doorIs(d, 3), -1);
        }
    }

    private static void taught() {
        FearLocks x = Checks.city("*=0 a=50;b=50 *=99 a=10;b=40;c=45;d=50 a=99;b=98");
        Checks.orders(x, "d0:a0;d1:a50;d2:a99;d3:b20;d4:a60");
        due("from nothing", x.taught(0, 0), 1);
        due("from nothing", x.taught(0, 1), 50);
        due("from nothing", x.taught(0, 2), 99);
        due("one more, or less", x.taught(1, 0), 1);
        due("one more, or less", x.taught(1, 1), 1);
        due("49 more", x.taught(1, 2), 49);
        due("b for a", x.taught(1, 3), 1);
        due("a is 99: the other ones must be less", x.taught(2, 2), 15);
        due("more of a or less of the other ones", x.taught(3, 0), 41);
        due("60", x.taught(3, 4), 50);
        due("he OPENS it", x.taught(4, 2), 0);
        due("b 99, a 98", x.taught(4, 3), 2);
        due("an untold one", x.taught(5, 0), -1);
        due("an untold one", x.taught(-1, 0), -1);
        due("an untold one", x.taught(12, 0), -1);
        due("an untold DOOR", x.taught(0, 5), -1);
        due("an untold DOOR", x.taught(0, -1), -1);
        due("an untold DOOR", x.taught(0, 16), -1);
    }

    private static void crew() {
        FearLocks x = Checks.city("a=9 b=9 a=20 c=9 . b=9;c=9 b=10");
        due("no DOORS", x.crew(0), 0);
        due("no DOORS", x.crew(1), 0);
        Checks.orders(x, "d0:a5;d1:a9;d2:b9;d3:c1");
        due("three", x.crew(0), 3);
        due("the least bits", x.crew(1), 1 | 2 | 8);
        Checks.orders(x, "d4:a10;d5:b10");
        due("three", x.crew(0), 3);
        due("stronger ones", x.crew(1), 4 | 8 | 64);
        Checks.orders(x, "d6:a21");
        due("nobody OPENS it", x.crew(0), -2);
        due("nobody OPENS it", x.crew(1), -2);
        due("what", x.crew(2), -1);
        due("what", x.crew(-1), -1);
        FearLocks nobody = new FearLocks();
        Checks.orders(nobody, "d0:a0");
        due("nobody", nobody.crew(0), -2);
        FearLocks last = Checks.city(". . . . . . . . . . . p=99");
        Checks.orders(last, "d15:p99");
        due("the last one", last.crew(1), 1 << 11);
        FearLocks each = Checks.city("a=1 b=1 c=1 d=1 e=1 f=1 g=1 h=1 i=1 j=1 k=1 l=1");
        Checks.orders(each, "d0:a0;d1:b0;d2:c0;d3:d0;d4:e0;d5:f0;d6:g0;d7:h0;d8:i0;d9:j0;d10:k0");
        due("eleven", each.crew(1), 2047);
        Checks.orders(each, "d11:l0");
        due("all", each.crew(0), 12);
        due("all", each.crew(1), 4095);
    }

    private static void lodgings() {
        FearLocks x = Checks.city("a=50 a=10 a=30 b=5 b=6 c=7;d=7");
        due("no DOORS", x.lodgings(), 0);
        Checks.orders(x, "d0:a5;d1:a5");
        due("two", x.lodgings(), 2);
        Checks.orders(x, "d2:a40;d3:a45");
        due("the stronger ones are one's alone", x.lodgings(), 3);
        Checks.orders(x, "d4:b6;d5:b6;d6:c0");
        due("one of b", x.lodgings(), 4);
        Checks.orders(x, "d5:b0");
        due("both of b", x.lodgings(), 5);
        Checks.orders(x, "d0:a5;d1:a10;d2:a30;d3:a50;d7:a0");
        due("all of a", x.lodgings(), 5);
    }
}
