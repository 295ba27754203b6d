/** Promise 3: THE LAW, its faults and what it weighs. */
public final class LawTest {
    private static final Checks CHECKS = new Checks();

    public static void main(String[] args) {
        lawsWithFaults();
        manyOpen();
        manyRules();
        refused();
        weighs();
        conditions();
        divisions();
        wholeNumbers();
        letters();
        rulesOfBefore();
        CHECKS.finish();
    }

    private static void due(String call, long got, long want) {
        CHECKS.due(call, got, want);
    }

    private static void lawsWithFaults() {
        String[] texts = {"e1(1=1)", "x(1=1)", "c1+2*3/4%5-6(k<d&f>v|!g=m)", "s[n](t=w)", "e99999(00000=0)",
            "", "a", "E", "e", "x", "x1(1=1)", "e(1=1)", "e1", "e1(", "e1)", "e1()", "e1(1)", "e1(1=)", "e1(1=1", "e1(1=1))",
            "e1(1=1)x", "e1(1=1);", "e1(1=1);;", "e1(1==1)", "e1(1<=1)", "e1(1=1=1)", "e1(1=1&)", "e1(1=1|)", "e1(&1=1)",
            "e1(1=1&&1=1)", "e-1(1=1)", "e+1(1=1)", "e1+(1=1)", "e1*(1=1)", "e[(1=1)", "e[](1=1)", "e[1(1=1)", "e[1](1=1)",
            "e1](1=1)", "e[1]](1=1)", "e1 (1=1)", "e123456(1=1)", "e1(123456=1)", "e1(1=999999)", "ea(1=1)", "ee(1=1)",
            "ex(1=1)", "e1(!)", "e1(!!1=1)", "e1(!(1=1))", "e1(1=!1)", "e1((1=1))", "e1((1=1)", "e1((1)=1)", "e1([1]=1)",
            "e1([1=1])", "e1(1=1)&", "ek1(1=1)", "e1k(1=1)", "ekk(1=1)", "e[1]k(1=1)", "e1[1](1=1)", "e1(1=1(", "e1(1=(1))",
            "e1(1=1!1=1)", "e1(1=1|(1=1)1=1)", "\u00e1", "e\u00e1", "e\u0000", "e1(1=1)\u00ff", "s1(1=1);x(1=1)", "x(1=1);x"};
        int[] answers = {1, 1, 1, 1, 1,
            -1, -1000, -1000, -1001, -1001, -1001, -1001, -1002, -1003, -1002, -1003, -1004, -1005, -1006, -1007,
            -1007, -1008, -1008, -1005, -1005, -1006, -1007, -1007, -1003,
            -1007, -1001, -1001, -1003, -1003, -1002, -1002, -1003, 1,
            -1002, -1004, -1002, -2006, -2008, -2010, -1001, -1001,
            -1001, -1004, 1, 1, -1005, 1, -1008, -1005, 1,
            -1005, -1007, -1002, -1002, -1002, -1004, -1002, -1006, -1005,
            -1006, -1012, -1000, -1001, -1001, -1007, 2, -1008};
        FearLocks x = new FearLocks();
        Checks.law(x, "e1(1=1);e2(1=1);x(1=2)");
        int rules = 3;
        for (int i = 0; i < texts.length; i++) {
            due("law '" + texts[i] + "'", Checks.law(x, texts[i]), answers[i]);
            rules = answers[i] > 0 ? answers[i] : rules;
            due("RULES", x.count(5), rules);
            due("the tape is empty", x.count(6), 0);
        }
    }

    private static void manyOpen() {
        String[] texts = {"e[[[[[[1]]]]]](1=1)", "e[[[[[[[1]]]]]]](1=1)", "e1(((((((1=1)))))))", "e1((((((1=1))))))",
            "e1(!!!!!1=1)", "e1(!!!!!!1=1)", "e1(![![![1]]]=1)", "e1(!(!(![1]=1)))", "e1(!(!([1]=1)))", "e1(!(!([[1]]=1)))",
            "e1([[[[[1]]]]]=1)", "e1([[[[[[1]]]]]]=1)", "e1(1=[[[[[[1]]]]]])", "e1(!!!!!1=1&!!!!!1=1|!!!!!1=1)",
            "e1(!!!!1=1&[[[[[1]]]]]=1)", "e1(!!!!1=[1]&!!!!!1=[1])", "e[1]+[[[[[[1]]]]]]+[[[[[[[1]]]]]]](1=1)",
            "e[[[[[[1]]]]]]([[[[[1]]]]]=1);e[[[[[[1]]]]]]([[[[[1]]]]]=1)", "e1(((((((", "e[[[[[[(", "e[[[[[[[", "e1(!!!!!]",
            "e1(!(!(!!1=1)))", "e1(!(!(!1=1)&!!!1=1))", "e1(!(!(!1=1)&!!!!1=1))"};
        int[] answers = {1, -5007, -5008, 1,
            1, -5008, -1005, -5008, 1, -5008,
            1, -5008, -5010, 1,
            1, -5020, -5025,
            2, -5008, -1007, -5007, -1008,
            -5008, 1, -5016};
        FearLocks x = new FearLocks();
        for (int i = 0; i < texts.length; i++) {
            due("law '" + texts[i] + "'", Checks.law(x, texts[i]), answers[i]);
        }
    }

    private static void manyRules() {
        FearLocks x = new FearLocks();
        String sixteen = "x(1=2);".repeat(15) + "x(1=2)";
        due("16 RULES", Checks.law(x, sixteen), 16);
        due("a 17th", Checks.law(x, sixteen + ";e"), -4112);
        due("a 17th", Checks.law(x, sixteen + ";x(1=2)"), -4112);
        due("what can't begin one", Checks.law(x, sixteen + ";k"), -1112);
        due("the end", Checks.law(x, sixteen + ";"), -1112);
        due("one stays", x.count(5), 16);
        String fourteen = "e1(1=1);".repeat(14);
        due("241 bytes", Checks.law(x, fourteen + "e" + "1+".repeat(61) + "1(1=1)"), -1);
        due("240 bytes", Checks.law(x, fourteen + "e" + "1+".repeat(60) + "11(1=1)"), 15);
        due("the end at 240", Checks.law(x, fourteen + "e" + "1+".repeat(60) + "111(1=1"), -1240);
        due("one long E", Checks.law(x, "e" + "k*".repeat(116) + "k(k=k)"), 1);
    }

    private static void refused() {
        FearLocks x = new FearLocks();
        Checks.feed(x, "e1(1=1)" + " ".repeat(250));
        due("no byte", x.law(0), -1);
        due("241 bytes", x.law(241), -1);
        due("less than none", x.law(-1), -1);
        due("the tape stays", x.count(6), 260);
        due("7 bytes", x.law(7), 1);
        due("the tape is empty", x.count(6), 0);
        due("nothing there", x.law(1), -1);
        Checks.feed(x, "x(1=1)");
        due("more than it has", x.law(21), -1);
        due("a FAULT", x.law(20), -1006);
        due("the one before stays", x.count(5), 1);
    }

    /** By how much DREAD is less is what an E weighs, from 0 to 99; a has 99 and OPENS. */
    private static long weightOf(String rules) {
        FearLocks x = Checks.city("*=1;a=99");
        Checks.orders(x, "d0:a0;d1:b0;d2:a7");
        long lines = Checks.law(x, "e1(d=2);" + rules);
        if (lines < 2) {
            throw new IllegalStateException(rules + " answered " + lines);
        }
        x.seed(0);
        x.nights(1);
        return 99 - x.personIs(0, 0);
    }

    private static void weighsSo(String rules, long want) {
        due("the weight by " + rules, weightOf(rules), want);
    }

    private static void weighs() {
        weighsSo("c7(1=1)", 7);
        weighsSo("c7(1=2)", 0);
        weighsSo("c7(1=2);c8(1=1);c9(1=1)", 8);
        weighsSo("c0(1=1);c8(1=1)", 0);
        weighsSo("c2+3*4(1=1)", 14);
        weighsSo("c[2+3]*4(1=1)", 20);
        weighsSo("c50-20-10(1=1)", 20);
        weighsSo("c50-[20-10](1=1)", 40);
        weighsSo("c80/4*2(1=1)", 40);
        weighsSo("c80/[4*2](1=1)", 10);
        weighsSo("c17%10*3(1=1)", 21);
        weighsSo("c3*17%10(1=1)", 1);
        weighsSo("c100-7/2(1=1)", 97);
        weighsSo("c[0-7]/2+50(1=1)", 47);
        weighsSo("c[0-7]%4+50(1=1)", 47);
        weighsSo("c7%[0-4]+50(1=1)", 53);
        weighsSo("c100(1=1)", 99);
        weighsSo("c99(1=1)", 99);
        weighsSo("c0-1(1=1)", 0);
        weighsSo("s50(1=1);e90(1=1)", 0);
        weighsSo("x(1=2);c4(1=1)", 4);
    }

    private static void conditions() {
        String[] hold = {"1=1", "1<2", "2>1", "!1=2", "!1<1", "!!1=1", "(1=1)", "!(1=2)", "1=1&2=2", "1=2|1=1", "1=1|1=2",
            "1=2&1=2|1=1", "1=1|1=2&1=2", "(1=1|1=2)&1=1", "!1=2&1=1", "!(1=2&1=1)", "1=2|1=2|1=1", "1=1&1=1&1=1",
            "!(1=2|1=2)", "1+1=2", "1+2*3=7", "!1=2|1=2", "1=1&!1=2", "1=2|!1=2&1=1", "(1=2|1=1)&(1=1|1=2)"};
        String[] fail = {"1=2", "2<1", "1<1", "1>1", "1>2", "!1=1", "!!1=2", "(1=2)", "!(1=1)", "1=1&1=2", "1=2&1=1",
            "1=2|1=2", "(1=1|1=1)&1=2", "1=2&(1=1|1=1)", "!1=1|1=2", "!(1=1|1=2)", "1=1&1=1&1=2", "1=2&1=1|1=1&1=2",
            "1=2&1=1&1=1", "!(1=1)&1=1", "!1=1&1=1"};
        for (String c : hold) {
            weighsSo("c3(" + c + ");c5(1=1)", 3);
        }
        for (String c : fail) {
            weighsSo("c3(" + c + ");c5(1=1)", 5);
        }
    }

    private static void divisions() {
        weighsSo("c1/0+9(1=1)", 0);
        weighsSo("c9+1%0(1=1)", 0);
        weighsSo("c9+1/[k-k](1=1);c5(1=1)", 0);
        weighsSo("c3(1/0=0);c5(1=1)", 5);
        weighsSo("c3(!1/0=0);c5(1=1)", 5);
        weighsSo("c3(!(1%0=0));c5(1=1)", 5);
        weighsSo("c3(1/0=0|1=1);c5(1=1)", 5);
        weighsSo("c3(1=1|1/0=0);c5(1=1)", 3);
        weighsSo("c3(1=2&1/0=0);c5(1=1)", 5);
        weighsSo("c3(1=2&1/0=0|1=1);c5(1=1)", 3);
        weighsSo("c3(1=1&1/0=0|1=1);c5(1=1)", 5);
        weighsSo("c3((1=1|1/0=0)&1=1);c5(1=1)", 3);
        weighsSo("c3(!(1=2&1/0=0));c5(1=1)", 3);
        weighsSo("c3(1=2&1/0=0&1/0=0|1=2|1=1|1/0=1);c5(1=1)", 3);
        weighsSo("x(1/0=0);c5(1=1)", 5);
        weighsSo("x(!1/0=0);c5(1=1)", 5);
        weighsSo("c3(0*[1/0]=0);c5(1=1)", 5);
    }

    private static void wholeNumbers() {
        weighsSo("c3([65536*65536]=0);c5(1=1)", 3);
        weighsSo("c3([46341*46341]<0);c5(1=1)", 3);
        weighsSo("c3(65536*32768-1>0);c5(1=1)", 3);
        weighsSo("c3(65536*32768/[0-1]<0);c5(1=1)", 3);
        weighsSo("c3(65536*32768/[0-1]=65536*32768);c5(1=1)", 3);
        weighsSo("c3(65536*32768%[0-1]=0);c5(1=1)", 3);
        weighsSo("c65536*32767(1=1)", 99);
        weighsSo("c65536*32768(1=1)", 0);
        weighsSo("c65536*65536+4(1=1)", 4);
    }

    /** RULES and C that are longer in place of those before them, which were more. */
    private static void rulesOfBefore() {
        FearLocks x = Checks.city("a=9");
        Checks.orders(x, "d0:a0");
        Checks.law(x, "e2(1=1);x(1=1);x(1=1);x(1=1)");
        due("he stays in", x.nights(1), 0);
        Checks.law(x, "c1(1=1);x(1=1);x(1=1);x(1=1)");
        due("he stays in", x.nights(1), 0);
        for (int more = 0; more < 12; more++) {
            due("one RULE", Checks.law(x, "e" + "1+".repeat(more) + "1(1=1|1=1|1=1|1=1|1=1)"), 1);
            due("he goes out", x.nights(1), 1);
        }
    }

    private static void letters() {
        weighsSo("cd(1=1)", 2);
        weighsSo("cf+50(1=1)", 50);
        weighsSo("cv-9(1=1)", 90);
        weighsSo("cg-8(1=1)", 91);
        weighsSo("cm(1=1)", 7);
        weighsSo("ck+n+o+t+40(1=1)", 40);
        weighsSo("cw(1=1)", 9);
    }
}
