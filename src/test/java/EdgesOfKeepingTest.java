import java.util.ArrayList;
import java.util.List;
import java.util.function.ToLongFunction;

/** Promises 1 and 26 to 30, calls that are refused, which answer is told first: a test for each sentence. */
public final class EdgesOfKeepingTest {
    private static final Edges EDGES = new Edges();
    private static final int LEAST = Integer.MIN_VALUE;
    private static final int MOST = Integer.MAX_VALUE;

    public static void main(String[] args) {
        ofANewObject();
        ofSeed();
        ofKept();
        ofWhatStays();
        ofDoorsUndone();
        ofCheck();
        ofCount();
        ofRefusedCalls();
        ofWhatIsToldFirst();
        ofAllCalls();
        EDGES.finish();
    }

    private static void sentence(String quote, Runnable test) {
        EDGES.sentence(quote, test);
    }

    private static void due(String call, long got, long want) {
        EDGES.due(call, got, want);
    }

    private static void due(String call, boolean got, boolean want) {
        EDGES.due(call, got, want);
    }

    private static FearLocks city(String people, String orders, String law) {
        FearLocks x = Checks.city(people);
        due("LINES of " + orders, Checks.orders(x, orders) > 0 ? 1 : 0, 1);
        due("RULES of " + law, Checks.law(x, law) > 0 ? 1 : 0, 1);
        return x;
    }

    // ---- Promise 1

    private static void ofANewObject() {
        sentence("`FearLocks()`: No PEOPLE, DOORS, LAW; THE SEED 1.", () -> {
            FearLocks x = new FearLocks();
            due("PEOPLE", x.count(1), 0);
            due("DOORS", x.count(2), 0);
            due("RULES", x.count(5), 0);
            due("X", x.count(7), 1);
            for (int p = 0; p < 12; p++) {
                due("one of PEOPLE", x.personIs(p, 104), -1);
            }
            for (int d = 0; d < 16; d++) {
                due("a DOOR", x.doorIs(d, 0), -1);
            }
        });
        sentence("THE NIGHT (0 at first).", () -> {
            FearLocks x = new FearLocks();
            due("THE NIGHT", x.count(0), 0);
            due("twos", x.count(3), 0);
            due("OPENED", x.count(4), 0);
            due("the tape", x.count(6), 0);
            due("none was KEPT", x.undo(), false);
        });
        sentence("All memory is the city's own.", () -> {
            FearLocks x = city("a=9 b=9", "0&1;d0:a0", "e1(1=1);s1(1=1)");
            FearLocks y = new FearLocks();
            x.nights(5);
            x.keep();
            Checks.feed(x, 1, 2, 3);
            x.seed(77);
            due("another's PEOPLE", y.count(1), 0);
            due("another's X", y.count(7), 1);
            due("another's tape", y.count(6), 0);
            due("another's KEPT", y.undo(), false);
            Checks.dreads(y, 5, "p=3");
            due("PEOPLE", x.count(1), 3);
        });
    }

    // ---- Promise 26

    private static void ofSeed() {
        sentence("THE SEED (0 to 65535; X, too): true; false: no such number.", () -> {
            FearLocks x = Checks.city("a=9");
            due("0", x.seed(0), true);
            due("X", x.count(7), 0);
            due("65535", x.seed(65535), true);
            due("X", x.count(7), 65535);
            for (int wrong : new int[] {-1, 65536, 131071, LEAST, MOST}) {
                due("seed " + wrong, x.seed(wrong), false);
                due("X stays", x.count(7), 65535);
            }
            x.nights(1);
            due("the next X", x.count(7), 54212);
            due("65535 again", x.seed(65535), true);
            x.nights(1);
            due("the same X", x.count(7), 54212);
        });
    }

    // ---- Promises 27 and 28

    private static void ofKept() {
        sentence("`int keep()`: KEPT: THE NIGHT.", () -> {
            FearLocks x = Checks.city("a=9");
            due("0", x.keep(), 0);
            x.nights(100);
            due("100", x.keep(), 100);
            due("100 again", x.keep(), 100);
        });
        sentence("UNDONE: true; false: none was KEPT.", () -> {
            FearLocks x = city("a=9", "d0:a0", "e1(1=1)");
            x.nights(3);
            int seed = x.count(7);
            due("none was KEPT", x.undo(), false);
            due("THE NIGHT", x.count(0), 3);
            due("OPENED", x.count(4), 3);
            due("X", x.count(7), seed);
            x.keep();
            due("KEPT", x.undo(), true);
            x.nights(2);
            due("once more", x.undo(), true);
            due("THE NIGHT", x.count(0), 3);
        });
        sentence("KEPT: PEOPLE's DREADS, OPENED, THE NIGHT, X; UNDONE: as they were KEPT last", () -> {
            FearLocks x = city("a=9;p=1 . . . . . . . . . . b=5", "d0:a0;d15:b0", "e1(1=1);c1(k=0);s2(1=1)");
            Checks.orders(x, "0&11");
            x.keep();
            x.nights(2);
            due("KEPT last", x.keep(), 2);
            int[] then = {x.personIs(0, 0), x.personIs(0, 1), x.personIs(0, 15), x.personIs(11, 0), x.personIs(11, 1),
                x.doorIs(0, 2), x.doorIs(15, 2), x.count(7)};
            x.nights(3);
            Checks.dreads(x, 0, "*=50;p=60");
            x.seed(3);
            due("UNDONE", x.undo(), true);
            int[] now = {x.personIs(0, 0), x.personIs(0, 1), x.personIs(0, 15), x.personIs(11, 0), x.personIs(11, 1),
                x.doorIs(0, 2), x.doorIs(15, 2), x.count(7)};
            for (int i = 0; i < then.length; i++) {
                due("the same, " + i, now[i], then[i]);
            }
            due("THE NIGHT", x.count(0), 2);
            due("one of them had DREAD of another FEAR", then[1] > 0 && then[3] > 0, true);
        });
    }

    private static void ofWhatStays() {
        sentence("(who is told, who KNOWS whom, DOORS stay as they are now", () -> {
            FearLocks x = city("a=9 b=9 c=9", "0&1;d0:a0;d1:a0", "e1(1=1)");
            x.keep();
            Checks.orders(x, "0/1;1&2;d0:c7;d1!;d2:b1");
            Checks.dreads(x, 11, "a=5");
            Checks.law(x, "e1(1=1);x(1=2)");
            Checks.feed(x, 1, 2);
            due("UNDONE", x.undo(), true);
            due("who is told", x.count(1), 7 | 1 << 11);
            due("twos", x.count(3), 1);
            due("who KNOWS whom", x.personIs(1, 102), 4);
            due("DOORS", x.count(2), 5);
            due("FEAR", x.doorIs(0, 0), 2);
            due("STRENGTH", x.doorIs(0, 1), 7);
            due("THE LAW", x.count(5), 2);
            due("the tape", x.count(6), 20);
        });
        sentence("who was not told then has DREADS of 0", () -> {
            FearLocks x = Checks.city("a=9");
            x.keep();
            Checks.dreads(x, 4, "*=99;a=7");
            due("UNDONE", x.undo(), true);
            due("told", x.personIs(4, 101), 0);
            due("all 0", x.personIs(4, 104), 0);
            due("no FEAR", x.personIs(4, 100), -2);
            due("who was told", x.personIs(0, 0), 9);
            FearLocks y = new FearLocks();
            y.keep();
            Checks.dreads(y, 0, "a=1");
            due("nobody was told", y.undo(), true);
            due("told", y.personIs(0, 104), 0);
        });
    }

    private static void ofDoorsUndone() {
        sentence("a DOOR not told then OPENED 0)", () -> {
            FearLocks x = city("a=9", "d0:a0", "e1(d=3);e1(d=0&t>4)");
            x.keep();
            Checks.orders(x, "d3:a0");
            x.nights(4);
            due("OPENED", x.doorIs(3, 2), 4);
            due("UNDONE", x.undo(), true);
            due("OPENED", x.doorIs(3, 2), 0);
            due("of all", x.count(4), 0);
            due("it is told", x.count(2), 9);
        });
        sentence("a DOOR not told then OPENED 0)", () -> {
            FearLocks x = city("a=9", "d3:a0", "e1(1=1)");
            x.nights(2);
            Checks.orders(x, "d3!");
            x.keep();
            Checks.orders(x, "d3:a0");
            x.nights(5);
            due("told, no more told, KEPT, told", x.undo(), true);
            due("OPENED", x.doorIs(3, 2), 0);
        });
        sentence("UNDONE: as they were KEPT last", () -> {
            FearLocks x = city("a=9", "d3:a0", "e1(1=1)");
            x.nights(2);
            x.keep();
            x.nights(7);
            Checks.orders(x, "d3:a5");
            due("told anew", x.doorIs(3, 2), 0);
            due("UNDONE", x.undo(), true);
            due("OPENED as KEPT", x.doorIs(3, 2), 2);
            due("STRENGTH as now", x.doorIs(3, 1), 5);
        });
    }

    // ---- Promise 29

    private static void ofCheck() {
        sentence("CHECK by the first n bytes of the tape (0 to 12; empty then; of PEOPLE who are not told 255): NONE: right; "
            + "else the first that is not so", () -> {
                FearLocks x = Checks.city("a=50;b=3 . *=0 *=99");
                due("right", Checks.check(x, 50, 255, 0, 99, 255, 255, 255, 255, 255, 255, 255, 255), -1);
                due("empty then", x.count(6), 0);
                due("not so", Checks.check(x, 50, 255, 0, 99, 255, 255, 255, 255, 255, 255, 255, 0), 11);
                due("the first one", Checks.check(x, 51, 0, 1, 98), 0);
                due("the second one", Checks.check(x, 50, 0, 1, 98), 1);
                due("0 is not 255", Checks.check(x, 50, 255, 255, 99), 2);
                due("99 is not 255", Checks.check(x, 50, 255, 0, 255), 3);
                due("empty then", x.count(6), 0);
                Checks.feed(x, 50, 255, 7);
                due("the first two alone", x.check(2), -1);
                Checks.feed(x, 1, 1, 1);
                due("none of them", x.check(0), -1);
                due("empty then", x.count(6), 0);
                due("none of an empty tape", x.check(0), -1);
            });
        sentence("-2: no such n, it has not so many (the tape stays).", () -> {
            FearLocks x = Checks.city("a=50");
            for (int n : new int[] {1, 12, 13, -1}) {
                due("check of an empty tape", x.check(n), -2);
            }
            Checks.feed(x, 50, 255);
            for (int n : new int[] {-1, 13, 20, LEAST, MOST}) {
                due("check by " + n, x.check(n), -2);
            }
            due("the tape stays", x.count(6), 20);
            due("right", x.check(2), -1);
        });
    }

    // ---- Promise 30

    private static void ofCount() {
        sentence("7 X. NONE for others.", () -> {
            FearLocks x = new FearLocks();
            for (int what : new int[] {-1, 8, 9, 100, LEAST, MOST}) {
                due("count " + what, x.count(what), -1);
            }
        });
        sentence("0 THE NIGHT, 1 told PEOPLE (bits), 2 told DOORS (bits), 3 twos who KNOW each other, 4 OPENED of all, "
            + "5 RULES, 6 bytes of the tape, 7 X.", () -> {
                FearLocks x = city("a=9 . . . . . . . . . . a=9", "0&11;d0:a0;d15:a0", "e1(d=0&k=0|d=15&k=11);x(1=2)");
                x.nights(2);
                x.seed(5);
                Checks.feed(x, 1);
                int[] want = {2, 1 | 1 << 11, 1 | 1 << 15, 1, 4, 2, 20, 5};
                for (int what = 0; what < want.length; what++) {
                    due("count " + what, x.count(what), want[what]);
                }
            });
        sentence("3 twos who KNOW each other", () -> {
            FearLocks x = Checks.city("a=1 a=1 a=1 a=1 a=1 a=1 a=1 a=1 a=1 a=1 a=1 a=1");
            int twos = 0;
            for (int p = 0; p < 12; p++) {
                for (int q = p + 1; q < 12; q++) {
                    Checks.orders(x, q + "&" + p);
                    twos++;
                    due("twos", x.count(3), twos);
                }
            }
            due("all of them", x.count(3), 66);
        });
    }

    // ---- refused calls

    private record Refused(String name, long answer, ToLongFunction<FearLocks> call) {
    }

    /** What of a city can be asked, but for what stands on the tape. */
    private static List<Long> state(FearLocks x) {
        List<Long> all = new ArrayList<>();
        for (int p = 0; p < 12; p++) {
            for (int what = 101; what <= 104; what++) {
                all.add((long) x.personIs(p, what));
            }
        }
        for (int d = 0; d < 16; d++) {
            for (int what = 0; what < 3; what++) {
                all.add((long) x.doorIs(d, what));
            }
        }
        for (int what = 0; what < 8; what++) {
            all.add((long) x.count(what));
        }
        all.add((long) x.tried(5, 0));
        all.add((long) x.tried(5, 30));
        return all;
    }

    private static List<Refused> refusedWithTheTape() {
        List<Refused> calls = new ArrayList<>();
        calls.add(new Refused("law(241)", -1, x -> x.law(241)));
        calls.add(new Refused("law(41)", -1, x -> x.law(41)));
        calls.add(new Refused("dreads(12, 3)", -1, x -> x.dreads(12, 3)));
        calls.add(new Refused("dreads(0, 0)", -1, x -> x.dreads(0, 0)));
        calls.add(new Refused("orders(121)", -1, x -> x.orders(121)));
        calls.add(new Refused("nights(101)", -1, x -> x.nights(101)));
        calls.add(new Refused("nights(0)", -1, x -> x.nights(0)));
        calls.add(new Refused("tried(0, 0)", -1, x -> x.tried(0, 0)));
        calls.add(new Refused("tried(5, 2)", -1, x -> x.tried(5, 2)));
        calls.add(new Refused("personIs(1, 0)", -1, x -> x.personIs(1, 0)));
        calls.add(new Refused("doorIs(9, 0)", -1, x -> x.doorIs(9, 0)));
        calls.add(new Refused("taught(0, 9)", -1, x -> x.taught(0, 9)));
        calls.add(new Refused("crew(2)", -1, x -> x.crew(2)));
        calls.add(new Refused("couples(100)", -1, x -> x.couples(100)));
        calls.add(new Refused("fashion(0, 12, 0)", -1, x -> x.fashion(0, 12, 0)));
        calls.add(new Refused("fears(2)", -1, x -> x.fears(2)));
        calls.add(new Refused("unlike(0, 1)", -1, x -> x.unlike(0, 1)));
        calls.add(new Refused("mostLike(1)", -1, x -> x.mostLike(1)));
        calls.add(new Refused("circles(1585, 0)", -1, x -> x.circles(1585, 0)));
        calls.add(new Refused("steps(0, 1)", -1, x -> x.steps(0, 1)));
        calls.add(new Refused("guess(13, 100)", -1, x -> x.guess(13, 100)));
        calls.add(new Refused("guess(1, 40)", -1, x -> x.guess(1, 40)));
        calls.add(new Refused("sentNext(0, 0)", -1, x -> x.sentNext(0, 0)));
        calls.add(new Refused("guards(2)", -1, x -> x.guards(2)));
        calls.add(new Refused("word(9, 1, 1)", -1, x -> x.word(9, 1, 1)));
        calls.add(new Refused("rooms(1, 100)", -1, x -> x.rooms(1, 100)));
        calls.add(new Refused("seed(65536)", 0, x -> x.seed(65536) ? 1 : 0));
        calls.add(new Refused("undo()", 0, x -> x.undo() ? 1 : 0));
        calls.add(new Refused("check(13)", -2, x -> x.check(13)));
        calls.add(new Refused("count(8)", -1, x -> x.count(8)));
        return calls;
    }

    private static void ofRefusedCalls() {
        sentence("A call that is refused (NONE, false) changes nothing but the tape, where it is told.", () -> {
            for (Refused refused : refusedWithTheTape()) {
                FearLocks x = city("a=50 . b=7;c=9", "0&2;d0:a5;d3:b5", "e1(1=1);c3(w>4);s2(1=1)");
                x.nights(3);
                Checks.feed(x, "a=1;b=2;c=3;d=4;e=5;f=6;g=7");
                List<Long> before = state(x);
                due(refused.name(), refused.call().applyAsLong(x), refused.answer());
                due("all is as it was behind " + refused.name(), state(x).equals(before), true);
                due("the tape, too", x.dreads(0, 27), 7);
                due("as it was fed", x.personIs(0, 6), 7);
            }
        });
        sentence("A call that is refused (NONE, false) changes nothing but the tape", () -> {
            FearLocks x = new FearLocks();
            for (int i = 0; i < 13; i++) {
                x.feed('*' << 24 | '=' << 16 | '7' << 8, 0, 0, 0, 0);
            }
            List<Long> before = state(x);
            due("feed", x.feed(1, 2, 3, 4, 5), -1);
            due("all is as it was", state(x).equals(before), true);
            due("the tape, too", x.dreads(0, 3), 1);
            Checks.feed(x, 0, 2);
            x.keep();
            before = state(x);
            due("what is not told", x.guess(1, 100), -3);
            due("the tape is empty", x.count(6), 0);
            Checks.feed(x, 0, 2);
            due("all but the tape is as it was", state(x).equals(before), true);
        });
    }

    // ---- which answer is told first

    private static void ofWhatIsToldFirst() {
        sentence("NONE (or what is told in its place) is told first, then a FAULT", () -> {
            FearLocks x = Checks.city("a=5");
            Checks.feed(x, "?????");
            due("nobody, and a FAULT", x.dreads(12, 3), -1);
            due("too many, and a FAULT", x.dreads(0, 121), -1);
            due("too many, and a FAULT", x.orders(21), -1);
            due("none, and a FAULT", x.law(0), -1);
            due("the tape stays", x.count(6), 20);
            due("a FAULT", x.law(1), -1000);
        });
        sentence("NONE (or what is told in its place) is told first, then a FAULT, then -2, then -3 and so on", () -> {
            FearLocks x = Checks.city("a=5");
            Checks.orders(x, "d0:b0");
            due("no such what, nobody OPENS it", x.crew(2), -1);
            due("nobody OPENS it", x.crew(0), -2);
            due("not told, no other one", x.mostLike(1), -1);
            due("no other one", x.mostLike(0), -2);
            due("not told, no way", x.steps(0, 1), -1);
            due("not told, no FEAR", x.personIs(1, 100), -1);
            due("not told, no FEAR", x.tried(1, 11), -1);
            FearLocks nobody = new FearLocks();
            due("no FEARS, nobody", nobody.sentNext(0, 0), -1);
            due("no such what, nobody", nobody.sentNext(1, 2), -1);
            due("nobody", nobody.sentNext(1, 0), -2);
            due("no such n, not so", nobody.check(13), -2);
        });
        sentence("NONE (or what is told in its place) is told first, then a FAULT, then -2, then -3 and so on", () -> {
            FearLocks x = Checks.city("a=5");
            Checks.feed(x, 99, 99, 99, 99);
            due("no such n, not told", x.guards(2), -1);
            due("no such n, a byte above 15", x.rooms(13, 5), -1);
            due("no such DREAD, a byte above 15", x.rooms(2, 100), -1);
            due("no such n, not told", x.guess(13, 100), -1);
            due("no such what, not told", x.guess(1, 16), -1);
            due("the tape stays", x.count(6), 20);
            due("not told", x.guess(1, 0), -3);
        });
    }

    private static void ofAllCalls() {
        sentence("An object is used for at most 512 calls after it has been made", () -> {
            FearLocks x = new FearLocks();
            for (int calls = 0; calls < 508; calls += 4) {
                x.feed('a' << 24 | '+' << 16 | '1' << 8, 0, 0, 0, 0);
                due("dreads", x.dreads(calls / 4 % 12, 3), 1);
                due("nights", x.nights(1), 0);
                due("THE NIGHT", x.count(0), calls / 4 + 1);
            }
            due("the 509th call", x.count(1), 4095);
            due("the 510th call", x.personIs(0, 0), 11);
            due("the 511th call", x.personIs(6, 0), 11);
            due("the 512th call", x.personIs(7, 0), 10);
        });
    }
}
