/** Promises 2, 4, 5: the tape, DREADS and ORDERS. */
public final class TextsTest {
    private static final Checks CHECKS = new Checks();

    public static void main(String[] args) {
        feeds();
        dreadsAsTold();
        dreadsWithFaults();
        dreadsRefused();
        ordersAsTold();
        ordersWithFaults();
        ordersRefused();
        CHECKS.finish();
    }

    private static void due(String call, long got, long want) {
        CHECKS.due(call, got, want);
    }

    private static void feeds() {
        FearLocks x = new FearLocks();
        for (int times = 1; times <= 13; times++) {
            due("feed", x.feed(0, 0, 0, 0, 0), 20 * times);
        }
        due("feed beyond 260", x.feed(0, 0, 0, 0, 0), -1);
        due("bytes stay", x.count(6), 260);
        due("dreads", x.dreads(0, 5), -1000);
        due("the whole tape is gone", x.count(6), 0);
        x.feed('a' << 24 | '=' << 16 | '4' << 8 | '2', 0, 0, 0, 0);
        due("the highest byte is first", x.dreads(0, 4), 1);
        due("a is 42", x.personIs(0, 0), 42);
        x.feed(0x2A3D3132, 0x3B613D39, 0, 0, 0);
        due("two ints", x.dreads(1, 8), 2);
        due("b", x.personIs(1, 1), 12);
        due("a", x.personIs(1, 0), 9);
        x.feed(0, 0, 0, 0, 0x32FFFFFF);
        due("high bytes stand for themselves", x.check(1), 0);
        x.feed(0x0CFFFFFF, 0, 0, 0, 0);
        due("255 is for those who are not told", Checks.check(x, 42, 12, 255, 255), -1);
    }

    private static void dreadsAsTold() {
        FearLocks x = new FearLocks();
        due("dreads", Checks.dreads(x, 11, "abp=30;b+9;p-4;a-31;*+1;c=99;c+1;cd+60"), 8);
        due("a", x.personIs(11, 0), 1);
        due("b", x.personIs(11, 1), 40);
        due("c", x.personIs(11, 2), 99);
        due("d", x.personIs(11, 3), 61);
        due("e", x.personIs(11, 4), 1);
        due("p", x.personIs(11, 15), 27);
        due("told", x.count(1), 1 << 11);
        due("again", Checks.dreads(x, 11, "p+00"), 1);
        due("what was told stays", x.personIs(11, 15), 27);
        due("less for all", Checks.dreads(x, 11, "*-30;b-05"), 2);
        due("b less", x.personIs(11, 1), 5);
        due("p less than 0", x.personIs(11, 15), 0);
        due("0 tells, too", Checks.dreads(x, 2, "a-1"), 1);
        due("told", x.count(1), 1 << 11 | 4);
        due("a of 2", x.personIs(2, 0), 0);
        due("sixteen letters", Checks.dreads(x, 3, "ponmlkjihgfedcba=7"), 1);
        due("in all", x.personIs(3, 104), 112);
        due("in all", x.personIs(3, 101), 7);
        due("a letter again in the next LINE", Checks.dreads(x, 3, "a=1;a=2"), 2);
        String hundred = "abcdefghijklmnop=10;".repeat(5);
        due("120 bytes", Checks.dreads(x, 4, hundred + "a=5;abcdefghijklm=10"), 7);
        due("a third digit at the last", Checks.dreads(x, 4, hundred + "abcdefghijklmnop=101"), -2119);
        due("the end at 120", Checks.dreads(x, 4, hundred + "abcdefghijklmnop=10;"), -1120);
    }

    private static void dreadsWithFaults() {
        String[] texts = {"q", "A=5", "1", "=5", ";", "a", "a=", "a=5;", "a=5;;b=5", "a5", "a*=5", "*a=5", "**=5",
            "aa=5", "abca=5", "apa", "a=123", "a+00000", "a=1x", "a=12x", "a==5", "a=-5", "a<5", "a=5,b=5", "a=5 ",
            " a=5", "ab=5;cc=1", "b=1;aq=5", "*", "*=", "*=1;*=222", "\u00e1=5", "a\u0000=5", "a=\u00b2", "a=5;\u00ff"};
        int[] faults = {-1000, -1000, -1000, -1000, -1000, -1001, -1002, -1004, -1004, -1001, -1001, -1001, -1001,
            -6001, -6003, -6002, -2004, -2004, -1003, -1004, -1002, -1002, -1001, -1003, -1003,
            -1000, -6006, -1005, -1001, -1002, -2008, -1000, -1001, -1002, -1004};
        FearLocks x = Checks.city("a=3;b=4");
        for (int i = 0; i < texts.length; i++) {
            due("dreads of '" + texts[i] + "'", Checks.dreads(x, 0, texts[i]), faults[i]);
            due("the tape is empty", x.count(6), 0);
            due("a stays", x.personIs(0, 0), 3);
            due("in all", x.personIs(0, 104), 7);
        }
        String twenty = "a+1;".repeat(19) + "a+1";
        due("20 LINES", Checks.dreads(x, 1, twenty), 20);
        due("one by one", x.personIs(1, 0), 20);
        due("a 21st LINE", Checks.dreads(x, 2, twenty + ";p"), -4080);
        due("a 21st LINE of all", Checks.dreads(x, 2, twenty + ";*"), -4080);
        due("what can't begin a LINE", Checks.dreads(x, 2, twenty + ";q"), -1080);
        due("what can't begin a LINE", Checks.dreads(x, 2, twenty + ";5"), -1080);
        due("the end", Checks.dreads(x, 2, twenty + ";"), -1080);
        due("a third digit", Checks.dreads(x, 2, twenty + "23"), -2080);
        due("nothing was done", x.count(1), 3);
    }

    private static void dreadsRefused() {
        FearLocks x = new FearLocks();
        Checks.feed(x, "a=5;".repeat(35));
        due("nobody", x.dreads(-1, 3), -1);
        due("nobody", x.dreads(12, 3), -1);
        due("no byte", x.dreads(0, 0), -1);
        due("121 bytes", x.dreads(0, 121), -1);
        due("a great many", x.dreads(0, Integer.MAX_VALUE), -1);
        due("less than none", x.dreads(0, Integer.MIN_VALUE), -1);
        due("the tape stays", x.count(6), 140);
        due("120 bytes", x.dreads(0, 120), -4080);
        Checks.feed(x, "a=5");
        due("more than it has", x.dreads(0, 21), -1);
        due("the tape stays", x.count(6), 20);
        due("none is told", x.count(1), 0);
        due("as many as stand", x.dreads(0, 3), 1);
    }

    private static void ordersAsTold() {
        FearLocks x = Checks.city("a=9 a=5 . b=7 . . . . . . . c=1");
        due("orders", Checks.orders(x, "0&1;1&3;11&00;d0:a5;d15:p99;d07:c1"), 6);
        due("0 knows", x.personIs(0, 102), 1 << 1 | 1 << 11);
        due("1 knows", x.personIs(1, 102), 1 | 1 << 3);
        due("11 knows", x.personIs(11, 102), 1);
        due("twos", x.count(3), 3);
        due("doors", x.count(2), 1 | 1 << 7 | 1 << 15);
        due("fear", x.doorIs(15, 0), 15);
        due("strength", x.doorIs(15, 1), 99);
        due("opened", x.doorIs(15, 2), 0);
        due("again", Checks.orders(x, "1&0;3/1;3/11;d0:b8;d7!"), 5);
        due("twos", x.count(3), 2);
        due("1 knows", x.personIs(1, 102), 1);
        due("fear", x.doorIs(0, 0), 1);
        due("strength", x.doorIs(0, 1), 8);
        due("no more", x.doorIs(7, 0), -1);
        due("doors", x.count(2), 1 | 1 << 15);
        due("told and told no more", Checks.orders(x, "d3:a1;d3!;d3:b2;d3!"), 4);
        due("doors", x.count(2), 1 | 1 << 15);
        Checks.law(x, "e1(d=5&k<2)");
        due("a DOOR", Checks.orders(x, "d5:a0"), 1);
        due("nights", x.nights(3), 6);
        due("opened", x.doorIs(5, 2), 6);
        due("told again", Checks.orders(x, "d5:a1"), 1);
        due("opened anew", x.doorIs(5, 2), 0);
        x.nights(1);
        due("opened", x.count(4), 2);
        due("told no more", Checks.orders(x, "d5!"), 1);
        due("opened of all", x.count(4), 0);
        due("told again", Checks.orders(x, "d5:a1"), 1);
        due("opened anew", x.doorIs(5, 2), 0);
    }

    private static void ordersWithFaults() {
        String[] texts = {"x", "e", ";", "0", "0&", "0-1", "0 &1", "0&1;", "0&1;;", "0&1,", "0&0", "0/00", "1/1;x",
            "2&0", "02&0", "0&2", "0/12", "0/99", "99", "99&", "99x", "123", "0&123", "2", "2x", "0&2x", "0&1x",
            "d", "dx", "d1", "d1x", "d1!", "d5!x", "d16", "d16:", "d99!", "d123", "d16x", "d1:", "d1:q", "d1:5", "d1:a",
            "d1:ab", "d1:a1b", "d1:a123", "d5:a1;d5!;d5!", "d5:a1;d05!x", "d5!;d5:a1", "D1:a1", "d1:A1", "0&1&2",
            "d5:a1&", "0&1!", "&1", "!", "d:a1", "d1:a1;2&0", "0&1;1&1"};
        int[] faults = {-1000, -1000, -1000, -1001, -1002, -1001, -1001, -1004, -1004, -1003, -6002, -6002, -6002,
            -7000, -7000, -7002, -7002, -7002, -7000, -7000, -7000, -2002, -2004, -7000, -7000, -7002, -1003,
            -1001, -1001, -1002, -1002, -7001, -7001, -3001, -3001, -3001, -2003, -3001, -1003, -1003, -1003, -1004,
            -1004, -1005, -2006, -7011, -1010, -7001, -1000, -1003, -1003,
            -1005, -1003, -1000, -1000, -1001, -7006, -6006};
        FearLocks x = Checks.city("a=9 b=9");
        for (int i = 0; i < texts.length; i++) {
            due("orders '" + texts[i] + "'", Checks.orders(x, texts[i]), faults[i]);
            due("the tape is empty", x.count(6), 0);
            due("no twos", x.count(3), 0);
            due("no doors", x.count(2), 0);
        }
        String sixteen = "0&1;".repeat(15) + "0/1";
        due("16 LINES", Checks.orders(x, sixteen), 16);
        due("the last one", x.count(3), 0);
        due("a 17th LINE", Checks.orders(x, sixteen + ";d"), -4064);
        due("a 17th LINE", Checks.orders(x, sixteen + ";9"), -4064);
        due("what can't begin a LINE", Checks.orders(x, sixteen + ";a"), -1064);
        due("the end", Checks.orders(x, sixteen + ";"), -1064);
    }

    private static void ordersRefused() {
        FearLocks x = Checks.city("a=9 b=9");
        Checks.feed(x, "0&1;".repeat(35));
        due("no byte", x.orders(0), -1);
        due("121 bytes", x.orders(121), -1);
        due("less than none", x.orders(-5), -1);
        due("the tape stays", x.count(6), 140);
        due("3 bytes", x.orders(3), 1);
        due("the tape is empty", x.count(6), 0);
        due("nothing there", x.orders(1), -1);
        Checks.feed(x, "0/1");
        due("more than it has", x.orders(21), -1);
        due("the tape stays", x.count(6), 20);
        due("twos", x.count(3), 1);
    }
}
