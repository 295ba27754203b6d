/** Promises 2, 4 and 5, and DREADS and ORDERS of the Terms: a test for each sentence that names a bound. */
public final class EdgesOfTextsTest {
    private static final Edges EDGES = new Edges();
    /** 119 bytes, so that one more makes it 120. */
    private static final String LONG_DREADS = "abcdefghijklmnop=10;".repeat(5) + "abcdefghijklmnop=10";
    /** 20 LINES and 16 LINES: as many as there can be. */
    private static final String TWENTY = "a+1;".repeat(19) + "a+1";
    private static final String SIXTEEN = "0&1;".repeat(15) + "0&1";

    public static void main(String[] args) {
        ofFeed();
        ofDreadsCalls();
        ofDreadsTexts();
        ofDreadsFaults();
        ofOrdersCalls();
        ofOrdersTexts();
        ofOrdersFaults();
        EDGES.finish();
    }

    private static void sentence(String quote, Runnable test) {
        EDGES.sentence(quote, test);
    }

    private static void due(String call, long got, long want) {
        EDGES.due(call, got, want);
    }

    private static FearLocks two() {
        return Checks.city("a=3;b=4 c=5");
    }

    /** On what was told before (a 3, b 4) and on one not told, and that neither is changed by it. */
    private static void dreadsFault(String text, int fault) {
        FearLocks x = two();
        due("dreads of '" + text + "'", Checks.dreads(x, 0, text), fault);
        due("the tape is empty", x.count(6), 0);
        due("a", x.personIs(0, 0), 3);
        due("in all", x.personIs(0, 104), 7);
        due("dreads of '" + text + "' of one not told", Checks.dreads(x, 9, text), fault);
        due("PEOPLE", x.count(1), 3);
    }

    private static void ordersFault(String text, int fault) {
        FearLocks x = two();
        due("orders '" + text + "'", Checks.orders(x, text), fault);
        due("the tape is empty", x.count(6), 0);
        due("twos", x.count(3), 0);
        due("DOORS", x.count(2), 0);
    }

    // ---- Promise 2

    private static void ofFeed() {
        sentence("Twenty bytes come behind the tape, the highest of each int first: how many it has", () -> {
            FearLocks x = new FearLocks();
            int aIs1 = 'a' << 24 | '=' << 16 | '1' << 8 | ';';
            due("20", x.feed(aIs1, aIs1, aIs1, aIs1, aIs1), 20);
            due("40", x.feed('b' << 24 | '=' << 16 | '2' << 8, 0, 0, 0, 0), 40);
            due("behind what was there", x.dreads(0, 23), 6);
            due("a", x.personIs(0, 0), 1);
            due("b", x.personIs(0, 1), 2);
        });
        sentence("Twenty bytes come behind the tape", () -> {
            FearLocks x = new FearLocks();
            due("ints below 0", x.feed(-1, -1, -1, 0, 0), 20);
            due("bytes of 255", x.check(12), -1);
            due("the last byte, 254", x.feed(-1, -1, -2, 0, 0), 20);
            due("11 is not so", x.check(12), 11);
            due("the first bit of all", x.feed(Integer.MIN_VALUE, 0, 0, 0, 0), 20);
            due("128 is not 255", x.check(1), 0);
        });
        sentence("NONE if that would be more than 260", () -> {
            FearLocks x = new FearLocks();
            int aIs1 = 'a' << 24 | '=' << 16 | '1' << 8 | ';';
            for (int size = 20; size <= 260; size += 20) {
                due("feed up to 260", x.feed(aIs1, aIs1, aIs1, aIs1, aIs1), size);
            }
            due("feed beyond it", x.feed(0, 0, 0, 0, 0), -1);
            due("and again", x.feed(-1, -1, -1, -1, -1), -1);
            due("bytes of the tape", x.count(6), 260);
            due("what it has", x.dreads(0, 3), 1);
            due("a", x.personIs(0, 0), 1);
            due("there is room again", x.feed(0, 0, 0, 0, 0), 20);
        });
        sentence("NONE if that would be more than 260", () -> {
            FearLocks x = new FearLocks();
            Checks.feed(x, "e1(1=1);".repeat(29) + "e1(1=1) ");
            Checks.feed(x, new int[20]);
            due("260", x.count(6), 260);
            due("what it has is as it was fed", x.feed(1, 1, 1, 1, 1), -1);
            due("a 17th RULE", x.law(240), -4128);
        });
    }

    // ---- Promise 4

    private static void ofDreadsCalls() {
        sentence("DREADS of p (0 to 11)", () -> {
            FearLocks x = new FearLocks();
            Checks.feed(x, "a=5");
            for (int p : new int[] {-1, 12, 16, 32, Integer.MAX_VALUE, Integer.MIN_VALUE}) {
                due("dreads of " + p, x.dreads(p, 3), -1);
            }
            due("the tape stays", x.count(6), 20);
            due("0", x.dreads(0, 3), 1);
            due("11", Checks.dreads(x, 11, "a=5"), 1);
            due("PEOPLE", x.count(1), 1 | 1 << 11);
        });
        sentence("by the first n bytes of the tape (1 to 120; empty then): how many LINES", () -> {
            FearLocks x = new FearLocks();
            Checks.feed(x, "a=5;".repeat(35));
            for (int n : new int[] {0, -1, 121, 140, Integer.MAX_VALUE, Integer.MIN_VALUE}) {
                due("dreads by " + n, x.dreads(0, n), -1);
            }
            due("the tape stays", x.count(6), 140);
            due("the first 3 bytes", x.dreads(0, 3), 1);
            due("empty then", x.count(6), 0);
            due("1", Checks.dreads(x, 0, "a"), -1001);
            String longest = "abcdefghijklmnop=10;".repeat(5) + "a=5;abcdefghijklm=12";
            due("as long as can be", longest.length(), 120);
            due("120", Checks.dreads(x, 1, longest), 7);
            due("its last digit", x.personIs(1, 12), 12);
            due("empty then", x.count(6), 0);
        });
        sentence("NONE: no such ones, it has not so many (the tape stays).", () -> {
            FearLocks x = new FearLocks();
            due("dreads by an empty tape", x.dreads(0, 1), -1);
            Checks.feed(x, "a=5;b=6;c=7;d=8;e=99");
            due("21 of 20", x.dreads(0, 21), -1);
            due("the tape stays", x.count(6), 20);
            due("nobody", x.count(1), 0);
            due("20 of 20", x.dreads(0, 20), 5);
            due("e", x.personIs(0, 4), 99);
        });
    }

    private static void ofDreadsTexts() {
        sentence("a TEXT of at most 120 bytes, no blanks, of one of PEOPLE", () -> {
            dreadsFault(" a=5", -1000);
            dreadsFault("a =5", -1001);
            dreadsFault("a= 5", -1002);
            dreadsFault("a=5 ", -1003);
            dreadsFault("a=5; b=5", -1004);
        });
        sentence("LINES with a ; (59) between two (20 at most)", () -> {
            FearLocks x = new FearLocks();
            due("20 LINES", Checks.dreads(x, 0, TWENTY), 20);
            due("each of them", x.personIs(0, 0), 20);
            due("19 LINES", Checks.dreads(x, 1, TWENTY.substring(4)), 19);
            dreadsFault("a=5:b=5", -1003);
            dreadsFault("a=5,b=5", -1003);
        });
        sentence("one or more letters a to p, one behind the other (unlike)", () -> {
            FearLocks x = new FearLocks();
            due("a and p", Checks.dreads(x, 0, "a=1;p=2"), 2);
            due("p", x.personIs(0, 15), 2);
            due("all sixteen", Checks.dreads(x, 0, "ponmlkjihgfedcba=3"), 1);
            due("in all", x.personIs(0, 104), 48);
            dreadsFault("=5", -1000);
            dreadsFault("`=5", -1000);
            dreadsFault("q=5", -1000);
            dreadsFault("A=5", -1000);
        });
        sentence("or + or - (more or less; 0 to 99)", () -> {
            FearLocks x = new FearLocks();
            due("more", Checks.dreads(x, 0, "a=98;a+1;b=98;b+2;c=99;c+99"), 6);
            due("99", x.personIs(0, 0), 99);
            due("99 at most", x.personIs(0, 1), 99);
            due("99 at most", x.personIs(0, 2), 99);
            due("less", Checks.dreads(x, 0, "a=1;a-1;b=1;b-2;c=0;c-99;d=9;d-99"), 8);
            due("0", x.personIs(0, 0), 0);
            due("0 at least", x.personIs(0, 1), 0);
            due("0 at least", x.personIs(0, 2), 0);
            due("0 at least", x.personIs(0, 3), 0);
            due("bounded by each LINE", Checks.dreads(x, 0, "a=99;a+9;a-4;b=0;b-9;b+4"), 6);
            due("99 less 4", x.personIs(0, 0), 95);
            due("0 and 4", x.personIs(0, 1), 4);
        });
        sentence("a number of one or two digits (of each of them)", () -> {
            FearLocks x = new FearLocks();
            due("one and two", Checks.dreads(x, 0, "a=0;b=9;c=00;d=09;e=10;fg=99"), 6);
            due("9", x.personIs(0, 1), 9);
            due("09", x.personIs(0, 3), 9);
            due("10", x.personIs(0, 4), 10);
            due("99 of each", x.personIs(0, 5) + x.personIs(0, 6), 198);
            dreadsFault("a=", -1002);
            dreadsFault("a=;b=5", -1002);
        });
        sentence("or * (42: of all FEARS) in place of the letters", () -> {
            FearLocks x = new FearLocks();
            due("of all", Checks.dreads(x, 0, "*=99;*+1;*-98"), 3);
            due("in all", x.personIs(0, 104), 16);
            dreadsFault("a*=5", -1001);
            dreadsFault("*a=5", -1001);
            dreadsFault("**=5", -1001);
        });
        sentence("He is told by it if he is not (all 0 ahead).", () -> {
            FearLocks x = new FearLocks();
            due("less than nothing", Checks.dreads(x, 4, "a-5"), 1);
            due("told", x.count(1), 16);
            due("all 0", x.personIs(4, 104), 0);
            due("0", Checks.dreads(x, 5, "*=0"), 1);
            due("told", x.count(1), 48);
            due("5 more", Checks.dreads(x, 6, "a+5"), 1);
            due("than 0", x.personIs(6, 104), 5);
            due("told already", Checks.dreads(x, 6, "b+5"), 1);
            due("what he had stays", x.personIs(6, 104), 10);
        });
    }

    private static void ofDreadsFaults() {
        sentence("1 what can't stand there (the end, too)", () -> {
            dreadsFault("a", -1001);
            dreadsFault("*", -1001);
            dreadsFault("ap", -1002);
            dreadsFault("a=", -1002);
            dreadsFault("a=5;", -1004);
            dreadsFault("a=55;", -1005);
            dreadsFault(";", -1000);
            dreadsFault(";a=5", -1000);
            dreadsFault("a=5;;b=5", -1004);
            dreadsFault("a5", -1001);
            dreadsFault("a==5", -1002);
            dreadsFault("a=5b", -1003);
            dreadsFault("a=5*", -1003);
            dreadsFault("a=/", -1002);
            dreadsFault("a=:", -1002);
            dreadsFault("5", -1000);
            dreadsFault("\u0000", -1000);
            dreadsFault("a=\u00ff", -1002);
            dreadsFault(LONG_DREADS + ";", -1120);
        });
        sentence("2 a third digit, at it", () -> {
            dreadsFault("a=123", -2004);
            dreadsFault("a=000", -2004);
            dreadsFault("a+1234", -2004);
            dreadsFault("ab=1;*-990", -2009);
            dreadsFault(LONG_DREADS + "1", -2119);
        });
        sentence("4 a 21st LINE, at its first byte (if that can stand there)", () -> {
            dreadsFault(TWENTY + ";a+1", -4080);
            dreadsFault(TWENTY + ";p", -4080);
            dreadsFault(TWENTY + ";*=1", -4080);
            dreadsFault(TWENTY + ";q=1", -1080);
            dreadsFault(TWENTY + ";=1", -1080);
            dreadsFault(TWENTY + ";;", -1080);
            dreadsFault(TWENTY + ";", -1080);
            dreadsFault(TWENTY + "a", -1079);
        });
        sentence("6 a letter twice in a LINE, at it.", () -> {
            dreadsFault("aa=5", -6001);
            dreadsFault("apa=5", -6002);
            dreadsFault("pp", -6001);
            dreadsFault("abcdefghijklmnopp=1", -6016);
            dreadsFault("a=1;bcb=1", -6006);
            FearLocks x = new FearLocks();
            due("in the next LINE", Checks.dreads(x, 0, "ab=5;ba=6"), 2);
            due("as told last", x.personIs(0, 0), 6);
        });
        sentence("FAULTS, the first from the left", () -> {
            dreadsFault("aa=123", -6001);
            dreadsFault("a=123;bb=1", -2004);
            dreadsFault("aq=1;bb=1", -1001);
            dreadsFault("a=1 ;aa=1", -1003);
        });
        sentence("Nothing is done by DREADS with a FAULT.", () -> {
            dreadsFault("a=9;*=9;b+9;b+999", -2016);
            dreadsFault("a=9;c=9;", -1008);
            dreadsFault("*=0;cc=9", -6005);
            FearLocks x = two();
            due("with a FAULT", Checks.dreads(x, 0, "*=50;b=123"), -2009);
            due("of one not told", Checks.dreads(x, 7, "*=50;b=123"), -2009);
            due("without a FAULT", Checks.dreads(x, 1, "c+1"), 1);
            due("nothing of it comes later", x.personIs(0, 104), 7);
            due("PEOPLE", x.count(1), 3);
        });
    }

    // ---- Promise 5

    private static void ofOrdersCalls() {
        sentence("ORDERS by the first n bytes of the tape (1 to 120; empty then): how many LINES", () -> {
            FearLocks x = two();
            Checks.feed(x, "0&1;".repeat(35));
            for (int n : new int[] {0, -1, 121, 140, Integer.MAX_VALUE, Integer.MIN_VALUE}) {
                due("orders by " + n, x.orders(n), -1);
            }
            due("the tape stays", x.count(6), 140);
            due("twos", x.count(3), 0);
            due("the first 3 bytes", x.orders(3), 1);
            due("empty then", x.count(6), 0);
            due("1", Checks.orders(x, "d"), -1001);
            due("the end at 120", Checks.orders(x, "d15:p99;".repeat(15)), -1120);
            String longest = "d15:p99;".repeat(14) + "00/1;0&1";
            due("as long as can be", longest.length(), 120);
            due("120", Checks.orders(x, longest), 16);
            due("its last LINE", x.count(3), 1);
            due("empty then", x.count(6), 0);
        });
        sentence("NONE: no such n, it has not so many (the tape stays).", () -> {
            FearLocks x = two();
            due("orders by an empty tape", x.orders(1), -1);
            Checks.feed(x, "0&1;d0:a1;d15:b5;0/1");
            due("21 of 20", x.orders(21), -1);
            due("the tape stays", x.count(6), 20);
            due("DOORS", x.count(2), 0);
            due("20 of 20", x.orders(20), 4);
            due("DOORS", x.count(2), 1 | 1 << 15);
        });
    }

    private static void ofOrdersTexts() {
        sentence("ORDERS: a TEXT of at most 120 bytes, no blanks", () -> {
            ordersFault(" 0&1", -1000);
            ordersFault("0 &1", -1001);
            ordersFault("0& 1", -1002);
            ordersFault("0&1 ", -1003);
            ordersFault("d 0:a1", -1001);
            ordersFault("d0: a1", -1003);
            ordersFault("d0:a 1", -1004);
            ordersFault("d0:a1; d0!", -1006);
        });
        sentence("LINES with a ; (59) between two (16 at most)", () -> {
            FearLocks x = two();
            due("16 LINES", Checks.orders(x, SIXTEEN), 16);
            due("twos", x.count(3), 1);
            due("the last of 16", Checks.orders(x, "0&1;".repeat(15) + "0/1"), 16);
            due("twos", x.count(3), 0);
            ordersFault("0&1:0&1", -1003);
        });
        sentence("(the two of PEOPLE KNOW each other)", () -> {
            FearLocks x = Checks.city("a=1 . . . . . . . . . . b=1");
            due("twice", Checks.orders(x, "11&0;00&11"), 2);
            due("one two", x.count(3), 1);
            due("0", x.personIs(0, 102), 1 << 11);
            due("11", x.personIs(11, 102), 1);
        });
        sentence("/ (47) and a number (they do not)", () -> {
            FearLocks x = Checks.city("a=1 . . . . . . . . . . b=1");
            due("they did not", Checks.orders(x, "0/11"), 1);
            due("no twos", x.count(3), 0);
            due("they do, they do not", Checks.orders(x, "0&11;11/0;11/0"), 3);
            due("no twos", x.count(3), 0);
        });
        sentence("(FEAR, STRENGTH: it is told, OPENED 0)", () -> {
            FearLocks x = Checks.city("a=99");
            due("the lowest and the highest", Checks.orders(x, "d0:a0;d15:p99;d07:b07"), 3);
            due("STRENGTH", x.doorIs(0, 1), 0);
            due("FEAR", x.doorIs(15, 0), 15);
            due("STRENGTH", x.doorIs(15, 1), 99);
            due("STRENGTH", x.doorIs(7, 1), 7);
            Checks.law(x, "e1(d=0)");
            due("it opens", x.nights(3), 3);
            due("OPENED", x.doorIs(0, 2), 3);
            due("told as it is", Checks.orders(x, "d0:a0"), 1);
            due("OPENED 0", x.doorIs(0, 2), 0);
            due("of all", x.count(4), 0);
        });
        sentence("! (it is told no more, OPENED 0)", () -> {
            FearLocks x = Checks.city("a=99");
            Checks.orders(x, "d0:a0;d15:a0");
            Checks.law(x, "e1(d=15)");
            due("it opens", x.nights(2), 2);
            due("no more", Checks.orders(x, "d15!"), 1);
            due("DOORS", x.count(2), 1);
            due("of all", x.count(4), 0);
            due("not told", x.doorIs(15, 2), -1);
            due("nobody can try it", x.nights(1), 0);
            due("told anew", Checks.orders(x, "d15:a9"), 1);
            due("OPENED 0", x.doorIs(15, 2), 0);
        });
        sentence("numbers of one or two digits", () -> {
            FearLocks x = two();
            due("with a 0 ahead", Checks.orders(x, "00&01;d01:a00;d1:b9;d01!"), 4);
            due("twos", x.count(3), 1);
            ordersFault("&1", -1000);
            ordersFault("0&", -1002);
            ordersFault("d:a1", -1001);
            ordersFault("d1:a", -1004);
        });
    }

    private static void ofOrdersFaults() {
        sentence("FAULTS: 1; 2; 3 a DOOR above 15", () -> {
            ordersFault("0", -1001);
            ordersFault("0&1;", -1004);
            ordersFault("d", -1001);
            ordersFault("d0", -1002);
            ordersFault("d00", -1003);
            ordersFault("d0:", -1003);
            ordersFault("d0:q1", -1003);
            ordersFault("d0:`1", -1003);
            ordersFault("d0:*1", -1003);
            ordersFault("d0:ab1", -1004);
            ordersFault("d0?", -1002);
            ordersFault("e0:a1", -1000);
            ordersFault("0+1", -1001);
            ordersFault("0&1&1", -1003);
            ordersFault(";0&1", -1000);
        });
        sentence("FAULTS: 1; 2; 3 a DOOR above 15", () -> {
            ordersFault("000&1", -2002);
            ordersFault("0&001", -2004);
            ordersFault("0/123", -2004);
            ordersFault("d000:a1", -2003);
            ordersFault("d0:a100", -2006);
            ordersFault("d000!", -2003);
        });
        sentence("3 a DOOR above 15, at its first digit (asked when it ends)", () -> {
            ordersFault("d16:a1", -3001);
            ordersFault("d16!", -3001);
            ordersFault("d16", -3001);
            ordersFault("d99x", -3001);
            ordersFault("0&1;d20:a1", -3005);
            ordersFault("d160:a1", -2003);
            FearLocks x = two();
            due("15", Checks.orders(x, "d15:a1"), 1);
        });
        sentence("4 a 17th LINE, at its first byte (if that can stand there)", () -> {
            ordersFault(SIXTEEN + ";0&1", -4064);
            ordersFault(SIXTEEN + ";9", -4064);
            ordersFault(SIXTEEN + ";d", -4064);
            ordersFault(SIXTEEN + ";d99!", -4064);
            ordersFault(SIXTEEN + ";a", -1064);
            ordersFault(SIXTEEN + ";&", -1064);
            ordersFault(SIXTEEN + ";;", -1064);
            ordersFault(SIXTEEN + ";", -1064);
            ordersFault(SIXTEEN + "00", -2064);
        });
        sentence("6 one and himself, at the second one's first digit (asked when it ends, behind 7)", () -> {
            ordersFault("0&0", -6002);
            ordersFault("0/0", -6002);
            ordersFault("1&01", -6002);
            ordersFault("01&1x", -6003);
            ordersFault("0&1;1/1;0&0", -6006);
            ordersFault("1&11", -7002);
            ordersFault("0&000", -2004);
            ordersFault("5&5", -7000);
        });
        sentence("7 one of PEOPLE who is not told (12 and more, too), at his first digit (asked when it ends)", () -> {
            ordersFault("2&0", -7000);
            ordersFault("0&2", -7002);
            ordersFault("0/2", -7002);
            ordersFault("11&0", -7000);
            ordersFault("12&0", -7000);
            ordersFault("0&12", -7002);
            ordersFault("0&99", -7002);
            ordersFault("0&32", -7002);
            ordersFault("2", -7000);
            ordersFault("2?1", -7000);
            ordersFault("0&02x", -7002);
            ordersFault("200&0", -2002);
            ordersFault("0&1;1&2", -7006);
            FearLocks x = Checks.city(". a=1");
            due("0 is not told", Checks.orders(x, "0&1"), -7000);
            due("0 is not told", Checks.orders(x, "1&00"), -7002);
            FearLocks last = Checks.city("a=1 . . . . . . . . . . a=1");
            due("11 is told", Checks.orders(last, "11&0"), 1);
            due("10 is not", Checks.orders(last, "10&0"), -7000);
        });
        sentence("a DOOR that is not told (with !), at its first digit (asked when ! has been read)", () -> {
            ordersFault("d0!", -7001);
            ordersFault("d15!", -7001);
            ordersFault("d5!x", -7001);
            ordersFault("d5", -1002);
            ordersFault("d5?", -1002);
            ordersFault("d5:a1;d05!;d5!", -7012);
            FearLocks x = two();
            due("told by a LINE ahead", Checks.orders(x, "d5:a1;d5!;d5:a1"), 3);
        });
        sentence("Nothing is done by ORDERS with a FAULT.", () -> {
            FearLocks x = Checks.city("a=9 b=9 a=5");
            Checks.orders(x, "0&1;d0:a5;d1:b5");
            Checks.law(x, "e1(d=0)");
            due("it opens", x.nights(2), 4);
            due("with a FAULT", Checks.orders(x, "0/1;1&2;d1!;d2:c1;d0:b7;d0!;d0!"), -7029);
            due("twos", x.count(3), 1);
            due("DOORS", x.count(2), 3);
            due("FEAR", x.doorIs(0, 0), 0);
            due("STRENGTH", x.doorIs(0, 1), 5);
            due("OPENED", x.doorIs(0, 2), 4);
            due("who KNOWS", x.personIs(0, 102), 2);
            due("without a FAULT", Checks.orders(x, "0&2"), 1);
            due("nothing of it comes later", x.count(2), 3);
            due("OPENED", x.doorIs(0, 2), 4);
            due("twos", x.count(3), 2);
        });
    }
}
