/** Promises 8 to 12: a test for each sentence that names a bound. */
public final class EdgesOfDoorsTest {
    private static final Edges EDGES = new Edges();
    private static final String TWELVE = "a=1 b=1 c=1 d=1 e=1 f=1 g=1 h=1 i=1 j=1 k=1 l=1";

    public static void main(String[] args) {
        ofPeople();
        ofDoors();
        ofTaught();
        ofCrew();
        ofLodgings();
        EDGES.finish();
    }

    private static void sentence(String quote, Runnable test) {
        EDGES.sentence(quote, test);
    }

    private static void due(String call, long got, long want) {
        EDGES.due(call, got, want);
    }

    private static FearLocks city(String people, String orders) {
        FearLocks x = Checks.city(people);
        due("LINES of " + orders, Checks.orders(x, orders) > 0 ? 1 : 0, 1);
        return x;
    }

    private static void ofPeople() {
        sentence("FEARS a to p (0 to 15). PEOPLE 0 to 11: told or not, of each FEAR a DREAD (0 to 99)", () -> {
            FearLocks x = Checks.city("a=99;p=98 . . . . . . . . . . *=1");
            due("a", x.personIs(0, 0), 99);
            due("b", x.personIs(0, 1), 0);
            due("p", x.personIs(0, 15), 98);
            due("of 11", x.personIs(11, 15), 1);
            due("there is no 16", x.personIs(0, 16), -1);
            due("there is no -1", x.personIs(0, -1), -1);
        });
        sentence("his FEAR is that of which his DREAD is greater than of any other one "
            + "(there is none if two are greatest alike, or all are 0)", () -> {
                FearLocks x = Checks.city("a=2;b=1 a=1;b=1 *=0 o=8;p=9;a=8 a=9;b=5;p=9 *=99 *=99;p=98 *=98;p=99 p=1");
                int[] fears = {0, -2, -2, 15, -2, -2, -2, 15, 15};
                for (int p = 0; p < fears.length; p++) {
                    due("FEAR of " + p, x.personIs(p, 100), fears[p]);
                }
            });
        sentence("Of a told one, what 0 to 15 DREAD of that FEAR, 100 his FEAR (none: -2), 101 the greatest DREAD", () -> {
            FearLocks x = Checks.city("a=7;b=7 *=0 *=99");
            due("none", x.personIs(0, 100), -2);
            due("greatest", x.personIs(0, 101), 7);
            due("of all 0", x.personIs(1, 101), 0);
            due("of all 99", x.personIs(2, 101), 99);
            due("none", x.personIs(2, 100), -2);
        });
        sentence("102 whom he KNOWS (bits), 103 DOORS he OPENS (bits), 104 DREADS added up", () -> {
            FearLocks x = city(TWELVE, "0&11;0&1;d0:a0;d15:a1;d1:a2");
            due("KNOWS", x.personIs(0, 102), 2 | 1 << 11);
            due("OPENS", x.personIs(0, 103), 1 | 1 << 15);
            due("added up", x.personIs(0, 104), 1);
            Checks.dreads(x, 1, "*=99");
            due("all of them", x.personIs(1, 104), 1584);
            due("OPENS none", x.personIs(1, 103), 0);
            due("KNOWS nobody", x.personIs(2, 102), 0);
        });
        sentence("104 DREADS added up; NONE for others.", () -> {
            FearLocks x = Checks.city("a=7 . b=7");
            for (int what : new int[] {-1, 16, 17, 31, 32, 99, 105, 116, Integer.MIN_VALUE, Integer.MAX_VALUE}) {
                due("personIs(0, " + what + ")", x.personIs(0, what), -1);
            }
            for (int p : new int[] {-1, 1, 3, 11, 12, 32, 34, Integer.MIN_VALUE, Integer.MAX_VALUE}) {
                for (int what : new int[] {0, 15, 16, 100, 101, 102, 103, 104, 105}) {
                    due("personIs(" + p + ", " + what + ")", x.personIs(p, what), -1);
                }
            }
        });
        sentence("Two PEOPLE KNOW each other or not (not at first).", () -> {
            FearLocks x = Checks.city(TWELVE);
            for (int p = 0; p < 12; p++) {
                due("KNOWS", x.personIs(p, 102), 0);
            }
            due("twos", x.count(3), 0);
        });
    }

    private static void ofDoors() {
        sentence("DOORS 0 to 15: told or not, a FEAR, a STRENGTH (0 to 99)", () -> {
            FearLocks x = city("a=1", "d0:a0;d15:p99");
            due("FEAR", x.doorIs(0, 0), 0);
            due("STRENGTH", x.doorIs(0, 1), 0);
            due("FEAR", x.doorIs(15, 0), 15);
            due("STRENGTH", x.doorIs(15, 1), 99);
            for (int d : new int[] {-1, 1, 14, 16, 31, 32, 47, Integer.MIN_VALUE, Integer.MAX_VALUE}) {
                for (int what = 0; what < 4; what++) {
                    due("doorIs(" + d + ", " + what + ")", x.doorIs(d, what), -1);
                }
            }
        });
        sentence("Of a told DOOR, what 0 FEAR, 1 STRENGTH, 2 OPENED, 3 who OPENS it (bits); NONE for others.", () -> {
            FearLocks x = city("a=1 a=2 . a=3 . . . . . . . a=9", "d0:a2;d1:b0;d2:a0;d2!");
            due("OPENED", x.doorIs(0, 2), 0);
            due("who", x.doorIs(0, 3), 2 | 8 | 1 << 11);
            due("nobody", x.doorIs(1, 3), 0);
            for (int what : new int[] {-1, 4, 5, 100, Integer.MIN_VALUE, Integer.MAX_VALUE}) {
                due("doorIs(0, " + what + ")", x.doorIs(0, what), -1);
            }
            due("told no more", x.doorIs(2, 0), -1);
        });
    }

    private static void ofTaught() {
        sentence("TAUGHT: the least by which DREADS of one (0 to 99) must be more or less in all so that he OPENS a DOOR.",
            () -> {
                FearLocks x = city("a=9 *=0 *=99 a=98;b=99 a=5;b=9;c=8 a=99;b=99;c=99", "d0:a0;d1:a9;d2:a99;d3:b10");
                due("he OPENS it", x.taught(0, 0), 0);
                due("as strong as it", x.taught(0, 1), 0);
                due("90 more", x.taught(0, 2), 90);
                due("from nothing, 0 is not enough", x.taught(1, 0), 1);
                due("from nothing", x.taught(1, 2), 99);
                due("no more than 99: fifteen others less", x.taught(2, 0), 15);
                due("no more than 99: fifteen others less", x.taught(2, 2), 15);
                due("b less by 2, or a more and b less", x.taught(3, 0), 2);
                due("b less by 1, a more by 1", x.taught(3, 2), 2);
                due("a more by 5", x.taught(4, 0), 5);
                due("a more by 5", x.taught(4, 1), 5);
                due("b more by 1", x.taught(4, 3), 1);
                due("b and c less", x.taught(5, 0), 2);
                due("a and c less", x.taught(5, 3), 2);
            });
        sentence("TAUGHT: a told one for a told DOOR; NONE: no such ones.", () -> {
            FearLocks x = city("a=9 . b=1", "d0:a0;d15:a1;d3:a1;d3!");
            due("the last DOOR", x.taught(2, 15), 2);
            for (int p : new int[] {-1, 1, 3, 12, 32, Integer.MIN_VALUE, Integer.MAX_VALUE}) {
                due("taught " + p, x.taught(p, 0), -1);
            }
            for (int d : new int[] {-1, 1, 3, 16, 32, Integer.MIN_VALUE, Integer.MAX_VALUE}) {
                due("taught for " + d, x.taught(0, d), -1);
            }
            due("neither", x.taught(1, 1), -1);
        });
    }

    private static void ofCrew() {
        sentence("A CREW: the fewest PEOPLE so that each told DOOR is OPENED by one of them; least bits.", () -> {
            FearLocks x = city("a=1 b=1 a=1 b=1 a=9 b=9", "d0:a1;d1:b1");
            due("two", x.crew(0), 2);
            due("the least bits", x.crew(1), 3);
            Checks.orders(x, "d15:a2");
            due("two", x.crew(0), 2);
            due("the least bits", x.crew(1), 2 | 16);
            Checks.orders(x, "d14:b2");
            due("two", x.crew(0), 2);
            due("only they", x.crew(1), 16 | 32);
            Checks.orders(x, "d15!;d14!;d1!");
            due("one", x.crew(0), 1);
            due("the lowest", x.crew(1), 1);
        });
        sentence("A CREW, what 0 how many (no DOORS: 0), 1 who (bits)", () -> {
            FearLocks x = Checks.city("a=1");
            due("no DOORS", x.crew(0), 0);
            due("nobody", x.crew(1), 0);
            FearLocks nothing = new FearLocks();
            due("nothing at all", nothing.crew(0), 0);
            due("nothing at all", nothing.crew(1), 0);
            FearLocks all = city(TWELVE, "d4:a0;d5:b0;d6:c0;d7:d0;d8:e0;d9:f0;d10:g0;d11:h0;d12:i0;d13:j0;d14:k0;d15:l1");
            due("twelve", all.crew(0), 12);
            due("all", all.crew(1), 4095);
            Checks.orders(all, "d4!;d4:b1");
            due("eleven", all.crew(1), 4094);
        });
        sentence("-2: a DOOR nobody OPENS; NONE: no such what.", () -> {
            FearLocks x = city("a=1 b=5;c=5", "d0:a1;d1:b1");
            due("how many", x.crew(0), -2);
            due("who", x.crew(1), -2);
            for (int what : new int[] {-1, 2, 3, Integer.MIN_VALUE, Integer.MAX_VALUE}) {
                due("crew " + what, x.crew(what), -1);
            }
            Checks.orders(x, "d1!");
            due("one", x.crew(0), 1);
            Checks.orders(x, "d0:a2");
            due("too strong", x.crew(0), -2);
            FearLocks nobody = new FearLocks();
            Checks.orders(nobody, "d0:a0");
            due("nobody is told", nobody.crew(0), -2);
            due("nobody is told", nobody.crew(1), -2);
        });
    }

    private static void ofLodgings() {
        sentence("LODGINGS: the most told DOORS that can be let at once, each to one who OPENS it, nobody having two.", () -> {
            due("nothing at all", new FearLocks().lodgings(), 0);
            due("no DOORS", Checks.city(TWELVE).lodgings(), 0);
            FearLocks x = city("a=9", "d0:a0;d1:a0;d2:a9");
            due("nobody has two", x.lodgings(), 1);
            FearLocks one = city("a=9 a=9 a=5", "d7:a5");
            due("a DOOR is let once", one.lodgings(), 1);
            Checks.orders(one, "d8:a6;d9:a9");
            due("5 to the third one", one.lodgings(), 3);
            Checks.orders(one, "d7:a6");
            due("none for the third one", one.lodgings(), 2);
            FearLocks y = city("a=9 a=5 b=1 c=2;d=2", "d0:a6;d1:a5;d2:c1");
            due("9 for 6, 5 for 5", y.lodgings(), 2);
            Checks.orders(y, "d1:a6");
            due("5 is too little", y.lodgings(), 1);
            Checks.orders(y, "d15:b1");
            due("and b", y.lodgings(), 2);
            FearLocks all = city(TWELVE, "d4:a0;d5:b0;d6:c0;d7:d0;d8:e0;d9:f0;d10:g0;d11:h0;d12:i0;d13:j0;d14:k0;d15:l1");
            due("twelve", all.lodgings(), 12);
            Checks.orders(all, "d0:a0;d1:a1;d2:b0;d3:c0");
            due("sixteen DOORS, twelve PEOPLE", all.lodgings(), 12);
            FearLocks nobody = new FearLocks();
            Checks.orders(nobody, "d0:a0");
            due("nobody is told", nobody.lodgings(), 0);
        });
    }
}
