/** Promise 3 and THE LAW of the Terms: a test for each sentence that names a bound. */
public final class EdgesOfLawTest {
    private static final Edges EDGES = new Edges();
    private static final String SIXTEEN = "x(1=2);".repeat(15) + "x(1=2)";
    private static final String LETTERS = "kdfvgmnotw";

    public static void main(String[] args) {
        ofTheCall();
        ofRules();
        ofConditions();
        ofSums();
        ofLetters();
        ofNumbers();
        ofDivisions();
        ofFaults();
        ofOpenOnes();
        EDGES.finish();
    }

    private static void sentence(String quote, Runnable test) {
        EDGES.sentence(quote, test);
    }

    private static void due(String call, long got, long want) {
        EDGES.due(call, got, want);
    }

    private static void due(String text, int answer) {
        FearLocks x = new FearLocks();
        due("law '" + text + "'", Checks.law(x, text), answer);
        due("RULES", x.count(5), Math.max(0, answer));
        due("the tape is empty", x.count(6), 0);
    }

    /** What c weighs for one with a 99 at DOOR 2 of a and STRENGTH 7, with the DRAW 9. */
    private static void weighs(String rules, long want) {
        FearLocks x = Checks.city("*=1;a=99");
        Checks.orders(x, "d0:a0;d1:b0;d2:a7;d9:c50");
        due("RULES of " + rules, Checks.law(x, "e1(d=2);" + rules) > 1 ? 1 : 0, 1);
        x.seed(0);
        x.nights(1);
        due("the weight by " + rules, 99 - x.personIs(0, 0), want);
    }

    private static void holds(String condition, boolean want) {
        weighs("c3(" + condition + ");c5(1=1)", want ? 3 : 5);
    }

    /** How much DREAD of b, of which he has 1 and the one he KNOWS 20, is more by s. */
    private static void isCaught(String rules, long want) {
        FearLocks x = Checks.city("a=30;b=1 b=20");
        Checks.orders(x, "0&1");
        due("RULES of " + rules, Checks.law(x, rules) > 0 ? 1 : 0, 1);
        x.nights(1);
        due("more by " + rules, x.personIs(0, 1) - 1, want);
    }

    /** Which of DOORS 0 to 3, all of a and of STRENGTH 0, one tries who OPENS them all; -1: none. */
    private static void tries(String rules, long want) {
        FearLocks x = Checks.city("a=50");
        Checks.orders(x, "d0:a0;d1:a0;d2:a0;d3:a0");
        due("RULES of " + rules, Checks.law(x, rules) > 0 ? 1 : 0, 1);
        x.nights(1);
        int door = -1;
        for (int d = 0; d < 4; d++) {
            door = x.doorIs(d, 2) > 0 ? d : door;
        }
        due("the DOOR by " + rules, door, want);
        due("OPENED", x.count(4), want < 0 ? 0 : 1);
    }

    private static void ofTheCall() {
        sentence("THE LAW by the first n bytes of the tape (1 to 240; empty then)", () -> {
            FearLocks x = new FearLocks();
            Checks.feed(x, "e1(1=1)" + " ".repeat(250));
            for (int n : new int[] {0, -1, 241, 260, Integer.MAX_VALUE, Integer.MIN_VALUE}) {
                due("law by " + n, x.law(n), -1);
            }
            due("the tape stays", x.count(6), 260);
            due("the first 7 bytes", x.law(7), 1);
            due("empty then", x.count(6), 0);
            due("1", Checks.law(x, "e"), -1001);
            String longest = "e1(1=1);".repeat(14) + "e" + "1+".repeat(60) + "11(1=1)";
            due("as long as can be", longest.length(), 240);
            due("240", Checks.law(x, longest), 15);
            due("the end at 240", Checks.law(x, longest.replace("11(", "111(").substring(0, 240)), -1240);
            due("empty then", x.count(6), 0);
        });
        sentence("in place of the one before: how many RULES", () -> {
            FearLocks x = Checks.city("a=9");
            Checks.orders(x, "d0:a0");
            due("16", Checks.law(x, SIXTEEN.substring(7) + ";e1(1=1)"), 16);
            due("it opens", x.nights(1), 1);
            due("1", Checks.law(x, "e0(1=1)"), 1);
            due("one RULE", x.count(5), 1);
            due("it does not", x.nights(1), 0);
            due("he stays in", Checks.law(x, "e1(1=1);x(1=1)"), 2);
            due("it does not", x.nights(1), 0);
            due("without x", Checks.law(x, "e1(1=1)"), 1);
            due("nothing is left of the one before", x.nights(1), 1);
        });
        sentence("in place of the one before: how many RULES", () -> {
            FearLocks x = Checks.city("a=9");
            Checks.orders(x, "d0:a0");
            for (int times = 0; times < 9; times++) {
                due("16", Checks.law(x, "x(1=1);".repeat(15) + "e1(1=1)"), 16);
                due("RULES", x.count(5), 16);
                due("he stays in", x.nights(1), 0);
                due("a FAULT", Checks.law(x, SIXTEEN + ";"), -1112);
                due("a long one", Checks.law(x, "e" + "0+".repeat(100) + "1(1=1)"), 1);
                due("RULES", x.count(5), 1);
                due("it opens", x.nights(1), 1);
                due("a short one", Checks.law(x, "e0(1=1);e1(1=1)"), 2);
                due("RULES", x.count(5), 2);
                due("it does not", x.nights(1), 0);
            }
            for (int more = 0; more < 9; more++) {
                due("with e", Checks.law(x, "x(1=2);x(1=2);e1(1=1)"), 3);
                due("with e", Checks.law(x, "x(1=2);x(1=2);e1(1=1)"), 3);
                due("without e", Checks.law(x, "c" + "0+".repeat(more) + "1(1=1|1=1|1=1|1=1|1=1|1=1)"), 1);
                due("no e of before is asked", x.nights(1), 0);
            }
        });
        sentence("a FAULT: -1000 times its number, less its place (the one before stays)", () -> {
            FearLocks x = Checks.city("a=9");
            Checks.orders(x, "d0:a0");
            Checks.law(x, "e1(1=1)");
            due("a FAULT in the second RULE", Checks.law(x, "x(1=1);e0(1=1"), -1013);
            due("one RULE", x.count(5), 1);
            due("by the one before", x.nights(1), 1);
            due("a FAULT at the end", Checks.law(x, "x(1=1);x(1=1);"), -1014);
            due("by the one before", x.nights(1), 1);
            due("a 17th RULE", Checks.law(x, SIXTEEN + ";x"), -4112);
            due("by the one before", x.nights(1), 1);
            due("the tape is empty", x.count(6), 0);
        });
        sentence("NONE: no such n, it has not so many (the tape stays).", () -> {
            FearLocks x = new FearLocks();
            due("law by an empty tape", x.law(1), -1);
            Checks.feed(x, "x(1=1);x(1=1);x(1=1)");
            due("21 of 20", x.law(21), -1);
            due("the tape stays", x.count(6), 20);
            due("no RULES", x.count(5), 0);
            due("20 of 20", x.law(20), 3);
        });
        sentence("THE LAW: a TEXT of at most 240 bytes, no blanks (none at first)", () -> {
            FearLocks x = Checks.city("a=9 b=9");
            Checks.orders(x, "d0:a0;0&1");
            due("no RULES", x.count(5), 0);
            due("nobody tries", x.nights(9), 0);
            due("nothing is caught", x.personIs(0, 104), 9);
        });
        sentence("a TEXT of at most 240 bytes, no blanks", () -> {
            due(" e1(1=1)", -1000);
            due("e 1(1=1)", -1001);
            due("e1 (1=1)", -1002);
            due("e1( 1=1)", -1003);
            due("e1(1 =1)", -1004);
            due("e1(1= 1)", -1005);
            due("e1(1=1 )", -1006);
            due("e1(1=1) ", -1007);
            due("e1(1=1); x(1=1)", -1008);
        });
    }

    private static void ofRules() {
        sentence("RULES (16 at most) with a ; (59) between two", () -> {
            due(SIXTEEN, 16);
            due(SIXTEEN.substring(7), 15);
            due("x(1=1),x(1=1)", -1006);
            due("x(1=1)x(1=1)", -1006);
            FearLocks x = Checks.city("a=9");
            Checks.orders(x, "d0:a0");
            Checks.law(x, SIXTEEN.substring(7) + ";e1(1=1)");
            due("the sixteenth does, too", x.nights(1), 1);
        });
        sentence("a letter, E, and (C), of x only (C)", () -> {
            due("e1(1=1);c1(1=1);s1(1=1);x(1=1)", 4);
            due("x1(1=1)", -1001);
            due("e(1=1)", -1001);
            due("c(1=1)", -1001);
            due("s(1=1)", -1001);
            due("e1", -1002);
            due("x", -1001);
            due("e1()", -1003);
        });
        sentence("e how one would try a DOOR (0 to 9999)", () -> {
            tries("e9998(d=0);e9999(d=1)", 1);
            tries("e9999(d=1);e10000(d=2)", 1);
            tries("e20000(d=3);e9999(d=2)", 2);
            tries("e99999*99(d=3);e10000(d=2);e9998(1=1)", 2);
            tries("e0-1(1=1)", -1);
            tries("e0-9(d<3)", -1);
            tries("e0(1=1)", -1);
            tries("e1(d=3);e0-9(1=1)", 3);
        });
        sentence("c by how much DREAD is less when it opened to him (0 to 99)", () -> {
            weighs("c98(1=1)", 98);
            weighs("c99(1=1)", 99);
            weighs("c100(1=1)", 99);
            weighs("c99999(1=1)", 99);
            weighs("c0(1=1)", 0);
            weighs("c0-1(1=1)", 0);
            weighs("c0-99999(1=1)", 0);
        });
        sentence("s by how much DREAD of the FEAR of one he knows is more (0 to 99)", () -> {
            isCaught("s97(1=1)", 97);
            isCaught("s98(1=1)", 98);
            isCaught("s99(1=1)", 98);
            isCaught("s100(1=1)", 98);
            isCaught("s99999*20000(1=1)", 98);
            isCaught("s0(1=1)", 0);
            isCaught("s0-1(1=1)", 0);
        });
        sentence("x he stays in (any will do; without an x in THE LAW nobody does by it)", () -> {
            tries("e1(1=1)", 0);
            tries("e1(1=1);x(1=2)", 0);
            tries("e1(1=1);x(1=1)", -1);
            tries("x(1=2);e1(1=1);x(1=1)", -1);
            tries("x(1=1);e1(1=1);x(1=2)", -1);
            tries("x(1=2);x(2=1);e1(1=1)", 0);
        });
        sentence("of the first RULE of e, c, s whose C holds the E (beyond its bounds the bound; none: 0)", () -> {
            weighs("c7(1=2);c8(1=1);c9(1=1)", 8);
            weighs("c0(1=1);c8(1=1)", 0);
            weighs("c0-3(1=1);c8(1=1)", 0);
            weighs("s7(1=1);c8(1=1)", 8);
            weighs("c7(1=2)", 0);
            weighs("s7(1=1)", 0);
            isCaught("s7(1=2);s5(1=1);s6(1=1)", 5);
            isCaught("s7(1=2)", 0);
            isCaught("c7(1=1);e7(1=1)", 0);
            tries("e1(d=1);e9(d>0)", 2);
            tries("e0(d=0);e1(1=1)", 1);
            tries("c7(1=1)", -1);
            tries("e7(1=2)", -1);
        });
    }

    private static void ofConditions() {
        sentence("C: PARTS with a | between two, one of which must hold", () -> {
            holds("1=2", false);
            holds("1=1|1=2", true);
            holds("1=2|1=1", true);
            holds("1=2|1=2|1=1", true);
            holds("1=2|1=2|1=2", false);
            due("x(1=1|)", -1006);
            due("x(|1=1)", -1002);
            due("x(1=1||1=1)", -1006);
        });
        sentence("a PART: TESTS with an & between two, all of which must", () -> {
            holds("1=1&1=1", true);
            holds("1=1&1=2", false);
            holds("1=2&1=1", false);
            holds("1=1&1=1&1=2", false);
            holds("1=1|1=2&1=2", true);
            holds("1=2&1=2|1=1", true);
            holds("(1=1|1=1)&1=2", false);
            due("x(1=1&)", -1006);
            due("x(&1=1)", -1002);
            due("x(1=1&&1=1)", -1006);
        });
        sentence("a TEST: !TEST, (C), or E, one of < > =, and E", () -> {
            holds("!1=2", true);
            holds("!1=1", false);
            holds("!!1=1", true);
            holds("!1=2|1=1&1=2", true);
            holds("!1=1|1=1", true);
            holds("!(1=1|1=1)", false);
            holds("((1=1))", true);
            holds("1<2", true);
            holds("2<2", false);
            holds("2>1", true);
            holds("2>2", false);
            holds("2=2", true);
            due("x(1)", -1003);
            due("x(1=)", -1004);
            due("x(1<=1)", -1004);
            due("x(1=1=1)", -1005);
            due("x(!)", -1003);
            due("x(())", -1003);
            due("x((1))", -1004);
            due("x((1)=1)", -1004);
            due("x(1=!1)", -1004);
            due("x(1=(1))", -1004);
            due("x([1=1])", -1004);
        });
        sentence("Of a C as much is asked, from the left, as matters.", () -> {
            holds("1=1|1/0=0", true);
            holds("1/0=0|1=1", false);
            holds("1=2|1/0=0", false);
            holds("1=2|1/0=0|1=1", false);
            holds("1=2&1/0=0|1=1", true);
            holds("1=1&1/0=0|1=1", false);
            holds("1=2&1=1&1/0=0|1=1", true);
            holds("(1=1|1/0=0)&1=1", true);
            holds("!(1=2&1/0=0)", true);
            holds("!(1=1|1/0=0)|1=1", true);
            holds("1=1&1=1|1/0=0&1/0=0|1/0=0", true);
        });
    }

    private static void ofSums() {
        sentence("TERMS with + or - between two; a TERM: FACTORS with one of * / % between two; from the left on", () -> {
            weighs("c50-20-10(1=1)", 20);
            weighs("c50-20+10(1=1)", 40);
            weighs("c2+3*4(1=1)", 14);
            weighs("c3*4+2(1=1)", 14);
            weighs("c80/4*2(1=1)", 40);
            weighs("c80/8/2(1=1)", 5);
            weighs("c3*17%10(1=1)", 1);
            weighs("c17%10*3(1=1)", 21);
            weighs("c50-17%10-3(1=1)", 40);
            due("e1+(1=1)", -1003);
            due("e-1(1=1)", -1001);
            due("e+1(1=1)", -1001);
            due("e1*(1=1)", -1003);
            due("e1--1(1=1)", -1003);
            due("e1*/1(1=1)", -1003);
        });
        sentence("a FACTOR: [E], a number of one to five digits, or a letter", () -> {
            weighs("c[2+3]*4(1=1)", 20);
            weighs("c50-[20-10](1=1)", 40);
            weighs("c00099(1=1)", 99);
            weighs("c99999-99998(1=1)", 1);
            weighs("c7(1=1)", 7);
            due("e[](1=1)", -1002);
            due("e[1(1=1)", -1003);
            due("e1](1=1)", -1002);
            due("e[1]](1=1)", -1004);
            due("e[1]2(1=1)", -1004);
            due("e1k(1=1)", -1002);
            due("ek1(1=1)", -1002);
            due("ekk(1=1)", -1002);
        });
    }

    private static void ofLetters() {
        sentence("or a letter: k who", () -> {
            for (char sign = 'a'; sign <= 'z'; sign++) {
                due("e" + sign + "(1=1)", LETTERS.indexOf(sign) < 0 ? -1001 : 1);
            }
            due("eK(1=1)", -1001);
            due("e`(1=1)", -1001);
            due("e{(1=1)", -1001);
            due("ek(k=\u00eb)", -1005);
        });
        sentence("d the DOOR (in s the other one), f its FEAR (in s the other one's), v his DREAD of that", () -> {
            weighs("cd(1=1)", 2);
            weighs("cf+4(1=1)", 4);
            weighs("cv-1(1=1)", 98);
            weighs("cm(1=1)", 7);
            weighs("cg-1(1=1)", 98);
            weighs("cw(1=1)", 9);
            weighs("ck+n+o+t+4(1=1)", 4);
            isCaught("sd+4(k=0)", 5);
            isCaught("sf+4(k=0)", 5);
            isCaught("sv+4(k=0)", 5);
            isCaught("sg+4(k=0)", 34);
            isCaught("sn+4(k=0)", 5);
            isCaught("s[k+1]*3(k=0)", 3);
        });
        sentence("(in s 0), n how many he KNOWS, o OPENED (in s 0)", () -> {
            FearLocks x = Checks.city("a=30;b=1 b=20 c=50");
            Checks.orders(x, "0&1;d9:c33;d8:c33");
            Checks.law(x, "e1(k=2);s1+m+10*o+50*w(k=0)");
            x.seed(1);
            due("the last one opens a DOOR", x.nights(3), 3);
            due("each NIGHT 1 more", x.personIs(0, 1), 4);
        });
        sentence("w the DRAW (in s 0) (d, f, v, m, o in x 0)", () -> {
            FearLocks x = Checks.city("b=90 b=50");
            Checks.orders(x, "d9:b33");
            Checks.law(x, "e1(1=1);x(d>0|f>0|v>0|m>0|o>0)");
            due("nobody stays in by them", x.nights(4), 8);
            Checks.law(x, "e1(1=1);x(d+f+v+m+o=0)");
            due("all stay in", x.nights(1), 0);
        });
        sentence("t THE NIGHT modulo 100", () -> {
            FearLocks x = Checks.city("a=9");
            Checks.orders(x, "d0:a0");
            Checks.law(x, "e1(t=99)");
            due("at 99 alone", x.nights(99), 0);
            due("at 99", x.tried(1, 0), 1);
            due("once of a hundred", x.nights(100), 1);
            Checks.law(x, "e1(t=0)");
            due("199 is 99", x.nights(1), 0);
            due("200 is 0", x.nights(1), 1);
            due("201 is 1", x.nights(1), 0);
            Checks.law(x, "e1(t>99)");
            due("never more", x.nights(100), 0);
        });
        sentence("t THE NIGHT modulo 100", () -> {
            FearLocks x = Checks.city("a=30;b=1 b=20");
            Checks.orders(x, "0&1");
            x.nights(100);
            Checks.law(x, "st+1(k=0)");
            x.nights(1);
            due("in s, too: 100 is 0", x.personIs(0, 1), 2);
            x.nights(1);
            due("101 is 1", x.personIs(0, 1), 4);
        });
    }

    private static void ofNumbers() {
        sentence("All is reckoned with 32 bits, as the machine does", () -> {
            holds("65536*32768<0", true);
            holds("65536*32768-1>0", true);
            holds("65536*65536=0", true);
            holds("46341*46341<0", true);
            holds("46340*46340>0", true);
            holds("65536*32767+65535>0", true);
            holds("65536*32767+65535+1<0", true);
            holds("0-65536*32768=65536*32768", true);
            holds("65536*32768/[0-1]=65536*32768", true);
            holds("65536*32768%[0-1]=0", true);
            holds("99999*99999=14098*[99999+1]+65409", true);
            weighs("c65536*65536+4(1=1)", 4);
            weighs("c65536*32768(1=1)", 0);
            weighs("c65536*32768-1(1=1)", 99);
        });
        sentence("as the machine does", () -> {
            weighs("c[0-7]/2+50(1=1)", 47);
            weighs("c7/[0-2]+50(1=1)", 47);
            weighs("c[0-7]%4+50(1=1)", 47);
            weighs("c7%[0-4]+50(1=1)", 53);
            weighs("c7/8+50(1=1)", 50);
        });
    }

    private static void ofDivisions() {
        sentence("what is divided by 0 is REFUSED: then the whole C of the RULE does not hold", () -> {
            holds("1/0=0", false);
            holds("1%0=0", false);
            holds("0/0=0", false);
            holds("0=1/0", false);
            holds("!1/0=0", false);
            holds("!1/0=1", false);
            holds("!!1/0=0", false);
            holds("!(1%0=0)", false);
            holds("0*[1/0]=0", false);
            holds("1/[1/0]=1", false);
            holds("1/[k-k]=0", false);
            holds("0/1=0", true);
            weighs("c3(1/0=0);c4(1%0=0);c5(1=1)", 5);
            tries("e1(1=1);x(1/0=0)", 0);
            tries("e1(1=1);x(!1/0=0)", 0);
            tries("e1(1=1);x(1/0=0);x(1=1)", -1);
            tries("e9(1/d=0);e1(1=1)", 2);
        });
        sentence("what is divided by 0 is REFUSED: then the whole C of the RULE does not hold, the E of it is 0", () -> {
            weighs("c1/0(1=1);c5(1=1)", 0);
            weighs("c9+1/0(1=1);c5(1=1)", 0);
            weighs("c1/0+9(1=1);c5(1=1)", 0);
            weighs("c1%0+9(1=1)", 0);
            weighs("c9-1%[k-k]*0(1=1)", 0);
            weighs("c9+1/0(1=2);c5(1=1)", 5);
            isCaught("s5+1/0(1=1)", 0);
            isCaught("s5/0(1=2);s6(1=1)", 6);
            tries("e9+9/d(1=1)", 1);
            tries("e9+9/d(d=0);e8(d=2)", 2);
            FearLocks x = Checks.city("a=99");
            Checks.orders(x, "d0:a0;d1:a0");
            Checks.law(x, "e5(7+[8*[3%d]]<99|1=1);e[6+[8*[3/0]]](1=1);c1(1=1)");
            due("however often it is REFUSED", x.nights(60), 60);
            due("1 alone", x.doorIs(1, 2), 60);
            due("1 less each time", x.personIs(0, 0), 39);
        });
    }

    private static void ofFaults() {
        sentence("FAULTS, the first from the left: 1 what can't stand there (the end, too)", () -> {
            due("a", -1000);
            due("E1(1=1)", -1000);
            due("e", -1001);
            due("e1(", -1003);
            due("e1(1", -1004);
            due("e1(1=", -1005);
            due("e1(1=1", -1006);
            due("e1(1=1))", -1007);
            due("e1(1=1);", -1008);
            due("e1(1=1);;", -1008);
            due(";", -1000);
            due("e1(1=1;", -1006);
            due("\u0000", -1000);
            due("e\u00ff(1=1)", -1001);
            due("x(1=1", -1005);
            due("x1(123456=1)", -1001);
        });
        sentence("2 a sixth digit, at it", () -> {
            due("e99999(1=1)", 1);
            due("e123456(1=1)", -2006);
            due("e000000(1=1)", -2006);
            due("e1(1=999999)", -2010);
            due("x(1234567<1)", -2007);
            due("x(1=1);x(1=[100000", -2017);
        });
        sentence("4 a 17th RULE, at its letter (if that can stand there)", () -> {
            due(SIXTEEN + ";e", -4112);
            due(SIXTEEN + ";c1(1=1)", -4112);
            due(SIXTEEN + ";s", -4112);
            due(SIXTEEN + ";x(1=1)", -4112);
            due(SIXTEEN + ";k", -1112);
            due(SIXTEEN + ";;", -1112);
            due(SIXTEEN + ";", -1112);
            due(SIXTEEN + "x", -1111);
        });
    }

    private static void ofOpenOnes() {
        sentence("5 a seventh of ( [ ! that are open in one another, at it", () -> {
            due("x((![[[1]]]=1))", 1);
            due("x((![[[[1]]]]=1))", -5007);
            due("x((((((1=1))))))", 1);
            due("x(((((((1=1)))))))", -5007);
            due("x([[[[[1]]]]]=1)", 1);
            due("x(1=[[[[[[1]]]]]])", -5009);
            due("x(!!!!!1=1)", 1);
            due("x(!!!!!!1=1)", -5007);
            due("x((((((!", -5007);
            due("x((((((1=1)))))))", -1016);
            due("x((1=1)&(1=1)&((((1=1))))|[1]=[1]&[[1]]=1)", 1);
        });
        sentence("(the ( of the RULE counts", () -> {
            due("e1(((((((", -5008);
            due("e1((((((1=1))))))", 1);
            due("e1((((((", -1008);
        });
        sentence("a ! is open till its TEST ends", () -> {
            due("x(!!!!!1=1&!!!!!1=1|!!!!!1=1)", 1);
            due("x(!!!!!1=1|[[[[[1]]]]]=1)", 1);
            due("x(!!!!!1=[1])", -5009);
            due("x(!!!!![1]=1)", -5007);
            due("x(!!!!!(1=1))", -5007);
            due("x(!!!!1=[1]&!!!!!1=1)", 1);
            due("x(!!!!(1=1)&(((((1=1))))))", 1);
            due("x(!(!(![1]=1)))", -5007);
            due("x(!(!([1]=1)&!!1=1))", 1);
            due("x(!(!(1=1)&!!!1=1))", 1);
            due("x(!(!(1=1)&!!!!1=1))", -5014);
        });
        sentence("the E of a RULE stands ahead of it", () -> {
            due("e[[[[[[1]]]]]](1=1)", 1);
            due("e[[[[[[[", -5007);
            due("e[[[[[[(", -1007);
            due("e[1]+[[[[[[1]]]]]]*[[[[[[1]]]]]](1=1)", 1);
            due("e[1]+[[[[[[[1]]]]]]](1=1)", -5011);
            due("e[[[[[[1]]]]]]([[[[[1]]]]]=1);c[[[[[[1]]]]]]((((((1=1))))))", 2);
            due("e[[[[[[1]]]]]]([[[[[[1]]]]]]=1)", -5020);
        });
    }
}
