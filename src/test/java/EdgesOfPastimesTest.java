/** Promises 21 to 25: a test for each sentence that names a bound. */
public final class EdgesOfPastimesTest {
    private static final Edges EDGES = new Edges();

    public static void main(String[] args) {
        ofGuess();
        ofGuessRefused();
        ofSentNext();
        ofGuards();
        ofWords();
        ofRooms();
        ofRoomsRefused();
        EDGES.finish();
    }

    private static void sentence(String quote, Runnable test) {
        EDGES.sentence(quote, test);
    }

    private static void due(String call, long got, long want) {
        EDGES.due(call, got, want);
    }

    // ---- Promise 21

    private static void ofGuess() {
        sentence("A DOOR OF NO ONE KNOWS WHAT: 1 to 12 tries (who, 1 it opened, 0 not): FEARS it can be of, with some STRENGTH (bits)",
            () -> {
                FearLocks x = Checks.city("a=40 b=99 *=1 a=1 *=0 p=99");
                due("it opened to a", Checks.guess(x, 100, 0, 1), 1);
                due("it did not", Checks.guess(x, 100, 0, 0), 65535);
                due("STRENGTH 100 there is not", Checks.guess(x, 100, 1, 0), 65535 & ~2);
                due("nor of p", Checks.guess(x, 100, 5, 0), 32767);
                due("of p", Checks.guess(x, 100, 5, 1), 1 << 15);
                due("to one without a FEAR", Checks.guess(x, 100, 2, 1), 0);
                due("not to one without a FEAR", Checks.guess(x, 100, 2, 0, 4, 0), 65535);
                due("to one with DREAD 0 of all", Checks.guess(x, 100, 4, 1), 0);
                due("to a and to b", Checks.guess(x, 100, 0, 1, 1, 1), 0);
                due("to 40, not to 1", Checks.guess(x, 100, 0, 1, 3, 0), 1);
                due("to 1, not to 40", Checks.guess(x, 100, 3, 1, 0, 0), 0);
                due("both to one", Checks.guess(x, 100, 0, 1, 0, 0), 0);
                due("twice to one", Checks.guess(x, 100, 0, 1, 0, 1), 1);
            });
        sentence("of a FEAR the least and the greatest STRENGTH (0 to 99) by which all went so, DREADS being as they are", () -> {
            FearLocks x = Checks.city("a=40 a=41 a=98 a=99 b=1");
            due("least", Checks.guess(x, 0, 0, 1), 0);
            due("greatest", Checks.guess(x, 20, 0, 1), 40);
            due("least", Checks.guess(x, 0, 0, 0), 41);
            due("greatest", Checks.guess(x, 20, 0, 0), 99);
            due("of another FEAR: 0", Checks.guess(x, 15, 0, 0), 0);
            due("of another FEAR: 99", Checks.guess(x, 35, 0, 0), 99);
            due("one STRENGTH alone", Checks.guess(x, 100, 0, 0, 1, 1), 1);
            due("one STRENGTH alone, the least", Checks.guess(x, 0, 0, 0, 1, 1), 41);
            due("one STRENGTH alone, the greatest", Checks.guess(x, 20, 0, 0, 1, 1), 41);
            due("99 alone", Checks.guess(x, 0, 2, 0), 99);
            due("99 alone", Checks.guess(x, 20, 2, 0, 3, 1), 99);
            due("more than 99", Checks.guess(x, 0, 3, 0), -2);
            due("more than 99", Checks.guess(x, 20, 3, 0), -2);
            due("STRENGTH 0 or 1", Checks.guess(x, 21, 4, 1), 1);
            Checks.dreads(x, 0, "a+7");
            due("DREADS as they are now", Checks.guess(x, 20, 0, 1), 47);
        });
        sentence("what 100 FEARS (bits), 0 to 15 the least, 20 to 35 the greatest STRENGTH for FEAR what (less 20) "
            + "(-2: it can't be)", () -> {
                FearLocks x = Checks.city("a=40;p=41");
                due("p", Checks.guess(x, 15, 0, 1), 0);
                due("p", Checks.guess(x, 35, 0, 1), 41);
                due("o", Checks.guess(x, 14, 0, 1), -2);
                due("o", Checks.guess(x, 34, 0, 1), -2);
                due("a", Checks.guess(x, 0, 0, 1), -2);
                due("a", Checks.guess(x, 20, 0, 1), -2);
                due("the tape is empty", x.count(6), 0);
                Checks.feed(x, 0, 1);
                for (int what : new int[] {-1, 16, 19, 36, 40, 99, 101, Integer.MIN_VALUE, Integer.MAX_VALUE}) {
                    due("guess, " + what, x.guess(1, what), -1);
                }
                due("the tape stays", x.count(6), 20);
            });
    }

    private static void ofGuessRefused() {
        sentence("by the first 2 n bytes of the tape (who, 1 or 0; n 1 to 12; empty then)", () -> {
            FearLocks x = Checks.city("a=40 b=50");
            Checks.feed(x, 0, 1, 1, 1);
            due("the first two bytes alone", x.guess(1, 100), 1);
            due("empty then", x.count(6), 0);
            Checks.feed(x, new int[40]);
            for (int n : new int[] {0, -1, 13, 20, 1 << 30, (1 << 31) + 1, Integer.MIN_VALUE, Integer.MAX_VALUE}) {
                due("guess by " + n, x.guess(n, 100), -1);
            }
            due("the tape stays", x.count(6), 40);
            due("12", x.guess(12, 0), 41);
            due("empty then", x.count(6), 0);
            Checks.feed(x, 0, 0, 0, 0, 0, 0, 0, 0, 0, 0, 0, 0, 0, 0, 0, 0, 0, 0, 0, 0, 0, 0, 1, 1);
            due("the twelfth counts", x.guess(12, 100), 2);
        });
        sentence("-3: one who is not told, neither 1 nor 0; NONE: no such ones, it has not so many (the tape stays).", () -> {
            FearLocks x = Checks.city("a=40 b=50 . a=9");
            for (int who : new int[] {2, 4, 11, 12, 32, 33, 128, 255}) {
                due("who " + who, Checks.guess(x, 100, who, 0, 0, 0), -3);
                due("the last one " + who, Checks.guess(x, 100, 0, 0, 1, 0, 0, 0, 1, 0, who, 1), -3);
                due("empty then", x.count(6), 0);
            }
            for (int how : new int[] {2, 3, 48, 49, 128, 255}) {
                due("how " + how, Checks.guess(x, 0, 0, how), -3);
            }
            due("in the last of them", Checks.guess(x, 100, 0, 0, 0, 0, 0, 0, 0, 2), -3);
            due("an empty tape", x.guess(1, 100), -1);
            Checks.feed(x, new int[20]);
            due("22 of 20", x.guess(11, 100), -1);
            due("the tape stays", x.count(6), 20);
            due("20 of 20", x.guess(10, 100), 65535);
        });
        sentence("in guess() -3 ahead of -2", () -> {
            FearLocks x = Checks.city("a=40 . b=50");
            due("it can't be", Checks.guess(x, 1, 0, 1), -2);
            due("one who is not told", Checks.guess(x, 1, 0, 1, 1, 1), -3);
            due("neither", Checks.guess(x, 21, 0, 1, 2, 2), -3);
        });
    }

    // ---- Promise 22

    private static void ofSentNext() {
        sentence("SENT NEXT: of some FEARS (bits) that a DOOR may be of (STRENGTH 0) the one of PEOPLE who leaves fewest at worst "
            + "(of like ones the lowest); how many.", () -> {
                FearLocks x = Checks.city(". *=1 a=1 b=99 a=99 p=1");
                due("a or b: the lowest", x.sentNext(3, 0), 2);
                due("one is left", x.sentNext(3, 1), 1);
                due("b or c", x.sentNext(6, 0), 3);
                due("p or c", x.sentNext(1 << 15 | 4, 0), 5);
                due("only c: nobody tells", x.sentNext(4, 0), 1);
                due("it is left", x.sentNext(4, 1), 1);
                due("c, d, e: nobody tells", x.sentNext(28, 0), 1);
                due("three", x.sentNext(28, 1), 3);
                due("a alone: all tell, the lowest", x.sentNext(1, 0), 1);
                due("it is left if it opens", x.sentNext(1, 1), 1);
                due("all", x.sentNext(65535, 0), 2);
                due("fifteen", x.sentNext(65535, 1), 15);
                FearLocks y = Checks.city(". . . *=0");
                due("one without a FEAR is one, too", y.sentNext(65535, 0), 3);
                due("all are left", y.sentNext(65535, 1), 16);
                due("the only one", y.sentNext(1 << 15, 1), 1);
            });
        sentence("SENT NEXT for some FEARS (bits, 1 to 65535), what 0 who, 1 how many at worst (nobody is told: -2 both); "
            + "NONE: no such ones.", () -> {
                FearLocks x = Checks.city("a=1");
                due("1", x.sentNext(1, 1), 1);
                for (int fears : new int[] {0, -1, 65536, 65537, Integer.MIN_VALUE, Integer.MAX_VALUE}) {
                    due("sentNext for " + fears, x.sentNext(fears, 0), -1);
                }
                for (int what : new int[] {-1, 2, Integer.MIN_VALUE, Integer.MAX_VALUE}) {
                    due("sentNext, " + what, x.sentNext(1, what), -1);
                }
                FearLocks nobody = new FearLocks();
                due("who", nobody.sentNext(65535, 0), -2);
                due("how many", nobody.sentNext(65535, 1), -2);
            });
    }

    // ---- Promise 23

    private static void ofGuards() {
        sentence("in how many ways they can stand so that no two side by side have the same FEAR "
            + "(those without one: alike to nobody); ways turned are unlike ways.", () -> {
                FearLocks x = Checks.city("a=1 b=1 c=1 a=9 a=5 *=0 *=9 a=1;b=1 b=7 b=8");
                due("three unlike ones, turned and turned over", Checks.guards(x, 0, 1, 2), 6);
                due("two alike of three", Checks.guards(x, 0, 1, 3), 0);
                due("the first and the last stand side by side", Checks.guards(x, 0, 1, 8, 3), 8);
                due("three without a FEAR", Checks.guards(x, 5, 6, 7), 6);
                due("one with a FEAR", Checks.guards(x, 5, 6, 0), 6);
                due("two alike and two without", Checks.guards(x, 0, 3, 5, 6), 8);
                due("six: three and three", Checks.guards(x, 0, 3, 4, 1, 8, 9), 72);
                due("six: three alike, three without", Checks.guards(x, 0, 3, 4, 5, 6, 7), 72);
                due("four alike are too many", Checks.guards(Checks.city("a=1 a=2 a=3 a=4 b=1 c=1"), 0, 1, 2, 3, 4, 5), 0);
            });
        sentence("GUARDS by the first n bytes of the tape (PEOPLE; n 3 to 6; empty then): ways", () -> {
            FearLocks x = Checks.city("a=1 b=1 c=1 d=1 e=1 f=1 g=1");
            Checks.feed(x, 0, 1, 2, 3, 4, 5, 6);
            for (int n : new int[] {2, 1, 0, -1, 7, 20, Integer.MIN_VALUE, Integer.MAX_VALUE}) {
                due("guards by " + n, x.guards(n), -1);
            }
            due("the tape stays", x.count(6), 20);
            due("6", x.guards(6), 720);
            due("empty then", x.count(6), 0);
            due("5", Checks.guards(x, 6, 5, 4, 3, 2), 120);
            due("4", Checks.guards(x, 0, 2, 4, 6), 24);
            due("3", Checks.guards(x, 6, 0, 3), 6);
        });
        sentence("-3: one who is not told, one twice; NONE: no such n, it has not so many (the tape stays).", () -> {
            FearLocks x = Checks.city("a=1 b=1 . c=1 *=0");
            for (int who : new int[] {2, 5, 11, 12, 32, 33, 255}) {
                due("with " + who, Checks.guards(x, 0, 1, who), -3);
                due("with " + who + " ahead", Checks.guards(x, who, 0, 1), -3);
                due("empty then", x.count(6), 0);
            }
            due("one twice", Checks.guards(x, 0, 1, 0), -3);
            due("side by side", Checks.guards(x, 1, 1, 0), -3);
            due("without a FEAR, twice", Checks.guards(x, 4, 0, 1, 4), -3);
            due("an empty tape", x.guards(3), -1);
        });
    }

    // ---- Promise 24

    private static void ofWords() {
        sentence("A WORD: FEARS weigh 1 to 16 (a 1, b 2 ..): words of so many letters (1 to 8; any of some FEARS, again, too) "
            + "that weigh so much: how many.", () -> {
                FearLocks x = new FearLocks();
                due("a", x.word(1, 1, 1), 1);
                due("p", x.word(1, 1 << 15, 16), 1);
                due("p is no 15", x.word(1, 1 << 15, 15), 0);
                due("aa", x.word(2, 1, 2), 1);
                due("ab and ba", x.word(2, 3, 3), 2);
                due("no c: bb alone", x.word(2, 2, 4), 1);
                due("all of 8 letters", x.word(8, 3, 12), 70);
                due("as many as of any weight", x.word(8, 65535, 68), wordsBySum(8, 68));
            });
        sentence("A WORD of so many letters (1 to 8) of some FEARS (bits, 0 to 65535) that weighs so much (0 to 128): how many; "
            + "NONE: no such ones.", () -> {
                FearLocks x = new FearLocks();
                due("the lightest", x.word(8, 65535, 8), 1);
                due("lighter", x.word(8, 65535, 7), 0);
                due("nothing", x.word(1, 65535, 0), 0);
                due("nothing of nothing", x.word(8, 0, 0), 0);
                due("the heaviest", x.word(8, 65535, 128), 1);
                due("7 letters can't", x.word(7, 65535, 128), 0);
                due("of no FEARS", x.word(1, 0, 1), 0);
                for (int letters : new int[] {0, -1, 9, Integer.MIN_VALUE, Integer.MAX_VALUE}) {
                    due("word of " + letters, x.word(letters, 1, 1), -1);
                }
                for (int fears : new int[] {-1, 65536, Integer.MIN_VALUE, Integer.MAX_VALUE}) {
                    due("word by " + fears, x.word(1, fears, 1), -1);
                }
                for (int weight : new int[] {-1, 129, Integer.MIN_VALUE, Integer.MAX_VALUE}) {
                    due("word that weighs " + weight, x.word(1, 1, weight), -1);
                }
            });
    }

    /** Words of all FEARS that weigh so much, letter by letter. */
    private static long wordsBySum(int letters, int weight) {
        long[][] words = new long[letters + 1][weight + 1];
        words[0][0] = 1;
        for (int i = 1; i <= letters; i++) {
            for (int sum = 0; sum <= weight; sum++) {
                for (int letter = 1; letter <= 16 && letter <= sum; letter++) {
                    words[i][sum] += words[i - 1][sum - letter];
                }
            }
        }
        return words[letters][weight];
    }

    // ---- Promise 25

    private static void ofRooms() {
        sentence("the first room (also if it is the only one) changes nothing", () -> {
            FearLocks x = new FearLocks();
            due("0", Checks.rooms(x, 0, 0), 0);
            due("99", Checks.rooms(x, 99, 15), 99);
            due("4", Checks.rooms(x, 4, 7), 4);
        });
        sentence("each other one adds 7 if it is of the FEAR of the one ahead, else takes 5 (0 to 99 at each)", () -> {
            FearLocks x = new FearLocks();
            due("alike", Checks.rooms(x, 0, 3, 3), 7);
            due("alike, of a", Checks.rooms(x, 10, 0, 0), 17);
            due("alike, of p", Checks.rooms(x, 10, 15, 15), 17);
            due("unlike", Checks.rooms(x, 5, 3, 4), 0);
            due("0 at least", Checks.rooms(x, 4, 3, 4), 0);
            due("to 99", Checks.rooms(x, 92, 3, 3), 99);
            due("99 at most", Checks.rooms(x, 93, 3, 3), 99);
            due("99 at each", Checks.rooms(x, 98, 3, 3, 3, 4), 89);
            due("99 at each of twelve", Checks.rooms(x, 99, 3, 3, 3, 3, 3, 3, 3, 3, 3, 3, 3, 3), 99);
            due("0 at each", Checks.rooms(x, 1, 3, 4, 3, 4, 3, 4, 3, 4, 3, 4, 3, 4), 0);
        });
        sentence("the least he can have in the end, by any order.", () -> {
            FearLocks x = new FearLocks();
            due("cdc", Checks.rooms(x, 50, 2, 2, 3), 40);
            due("ccdc", Checks.rooms(x, 50, 2, 2, 2, 3), 47);
            due("what is more comes first", Checks.rooms(x, 0, 2, 2, 2, 3), 0);
            due("what is more comes first", Checks.rooms(x, 4, 2, 2, 2, 3), 1);
            due("seven and five", Checks.rooms(x, 90, 1, 1, 1, 1, 1, 1, 1, 2, 2, 3, 3, 4), 47);
            due("six and six", Checks.rooms(x, 90, 1, 1, 1, 1, 1, 1, 2, 2, 2, 2, 2, 2), 35);
        });
    }

    private static void ofRoomsRefused() {
        sentence("ROOMS by the first n bytes of the tape (FEARS; n 1 to 12; empty then) with so much DREAD at first (0 to 99): the least",
            () -> {
                FearLocks x = new FearLocks();
                Checks.feed(x, 1, 1, 1, 1, 1, 1, 1, 1, 1, 1, 1, 1, 2, 2);
                for (int n : new int[] {0, -1, 13, 20, Integer.MIN_VALUE, Integer.MAX_VALUE}) {
                    due("rooms by " + n, x.rooms(n, 50), -1);
                }
                for (int dread : new int[] {-1, 100, Integer.MIN_VALUE, Integer.MAX_VALUE}) {
                    due("rooms with " + dread, x.rooms(1, dread), -1);
                }
                due("the tape stays", x.count(6), 20);
                due("12", x.rooms(12, 0), 77);
                due("empty then", x.count(6), 0);
                due("0", Checks.rooms(x, 0, 1, 1), 7);
                due("99", Checks.rooms(x, 99, 1, 2), 94);
            });
        sentence("-3: a byte above 15; NONE: no such ones, it has not so many (the tape stays).", () -> {
            FearLocks x = new FearLocks();
            due("15", Checks.rooms(x, 50, 15, 14), 45);
            for (int wrong : new int[] {16, 17, 97, 128, 255}) {
                due("a byte of " + wrong, Checks.rooms(x, 50, 1, 2, wrong), -3);
                due("empty then", x.count(6), 0);
                due("the only one", Checks.rooms(x, 50, wrong), -3);
            }
            Checks.feed(x, 1, 2, 99);
            due("the first two alone", x.rooms(2, 50), 45);
            due("an empty tape", x.rooms(1, 50), -1);
        });
    }
}
