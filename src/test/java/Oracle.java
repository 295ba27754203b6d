import java.util.ArrayDeque;
import java.util.ArrayList;
import java.util.Arrays;
import java.util.Deque;
import java.util.HashMap;
import java.util.List;
import java.util.Map;
import java.util.TreeMap;
import java.util.TreeSet;
import java.util.regex.Matcher;
import java.util.regex.Pattern;

/**
 * The document once more, by other ways than the program's where there are any: texts by patterns and
 * by cutting them, numbers by trying all. RandomRunsTest compares both.
 */
final class Oracle {
    private static final Pattern DREADS = lines("(?:[a-p]+|\\*)[=+-][0-9]{1,2}");
    private static final Pattern ORDERS =
        lines("(?:[0-9]{1,2}[&/][0-9]{1,2}|d[0-9]{1,2}(?:!|:[a-p][0-9]{1,2}))");

    private static final class Person {
        int[] dread = new int[16];
        TreeSet<Integer> knows = new TreeSet<>();
    }

    private static final class Door {
        int fear;
        int strength;
    }

    /** A division by 0. */
    private static final class Refused extends Exception {
        private static final long serialVersionUID = 1L;
    }

    private final List<Integer> tape = new ArrayList<>();
    private TreeMap<Integer, Person> people = new TreeMap<>();
    private TreeMap<Integer, Door> doors = new TreeMap<>();
    private int[] opened = new int[16];
    private int night = 0;
    private int x = 1;
    private String law = "";
    private Map<Integer, int[]> keptDreads = null;
    private Map<Integer, Integer> keptOpened = null;
    private int keptNight;
    private int keptX;
    private int openings;
    private int failures;

    private static Pattern lines(String line) {
        return Pattern.compile(line + "(?:;" + line + ")*", Pattern.DOTALL);
    }

    private boolean lacks(int n, int least, int most) {
        return n < least || n > most || n > tape.size();
    }

    private int[] takeBytes(int n) {
        int[] bytes = new int[n];
        for (int i = 0; i < n; i++) {
            bytes[i] = tape.get(i);
        }
        tape.clear();
        return bytes;
    }

    private String takeText(int n) {
        StringBuilder text = new StringBuilder();
        for (int sign : takeBytes(n)) {
            text.append((char) sign);
        }
        return text.toString();
    }

    int feed(int... fours) {
        if (tape.size() + 20 > 260) {
            return -1;
        }
        for (int four : fours) {
            tape.add(four >>> 24);
            tape.add(four >>> 16 & 255);
            tape.add(four >>> 8 & 255);
            tape.add(four & 255);
        }
        return tape.size();
    }

    /** Where a pattern first can't go on; the text's length if only the end is wrong; -1 if nothing is. */
    private static int firstWrong(Pattern pattern, String text) {
        for (int n = 1; n <= text.length(); n++) {
            Matcher matcher = pattern.matcher(text.substring(0, n));
            if (!matcher.matches() && !matcher.hitEnd()) {
                return n - 1;
            }
        }
        return pattern.matcher(text).matches() ? -1 : text.length();
    }

    private static int fault(int number, int place) {
        return -1000 * number - place;
    }

    /** The fault of a place where the pattern can't go on: 2 for a digit behind as many as may be. */
    private static int faultAt(String text, int place, int digits) {
        int run = 0;
        while (place - run > 0 && Character.isDigit(text.charAt(place - run - 1)) && text.charAt(place - run - 1) < 128) {
            run++;
        }
        boolean digit = place < text.length() && text.charAt(place) >= '0' && text.charAt(place) <= '9';
        return fault(digit && run == digits ? 2 : 1, place);
    }

    int dreads(int p, int n) {
        if (p < 0 || p > 11 || lacks(n, 1, 120)) {
            return -1;
        }
        String text = takeText(n);
        TreeMap<Integer, Integer> faults = new TreeMap<>();
        int wrong = firstWrong(DREADS, text);
        if (wrong >= 0) {
            faults.put(wrong, faultAt(text, wrong, 2));
        }
        int good = wrong < 0 ? n : wrong;
        int line = 0;
        TreeSet<Character> seen = new TreeSet<>();
        for (int i = 0; i < good; i++) {
            char sign = text.charAt(i);
            if (sign == ';') {
                line++;
                seen.clear();
                if (line == 20 && i + 1 < good) {
                    faults.putIfAbsent(i + 1, fault(4, i + 1));
                }
            } else if (sign >= 'a' && sign <= 'p' && !seen.add(sign)) {
                faults.putIfAbsent(i, fault(6, i));
            }
        }
        if (!faults.isEmpty()) {
            return faults.firstEntry().getValue();
        }
        Person person = people.computeIfAbsent(p, k -> new Person());
        String[] parts = text.split(";");
        for (String part : parts) {
            int at = part.replaceAll("[0-9]", "").length() - 1;
            String which = part.substring(0, at).replace("*", "abcdefghijklmnop");
            int much = Integer.parseInt(part.substring(at + 1));
            for (char letter : which.toCharArray()) {
                int f = letter - 'a';
                switch (part.charAt(at)) {
                    case '=' -> person.dread[f] = much;
                    case '+' -> person.dread[f] = Math.min(99, person.dread[f] + much);
                    default -> person.dread[f] = Math.max(0, person.dread[f] - much);
                }
            }
        }
        return parts.length;
    }

    int orders(int n) {
        if (lacks(n, 1, 120)) {
            return -1;
        }
        String text = takeText(n);
        int wrong = firstWrong(ORDERS, text);
        TreeMap<Integer, Integer> faults = new TreeMap<>();
        int wrongFault = 0;
        if (wrong >= 0) {
            wrongFault = faultAt(text, wrong, 2);
            faults.put(wrong, wrongFault);
        }
        int good = wrong < 0 ? n : wrong;
        String readable = text.substring(0, good);
        TreeSet<Integer> toldDoors = new TreeSet<>(doors.keySet());
        int start = 0;
        int line = 0;
        for (String part : readable.split(";", -1)) {
            if (line == 16 && !part.isEmpty()) {
                faults.putIfAbsent(start, fault(4, start));
            }
            boolean cut = start + part.length() == good && wrong >= 0;
            Matcher door = Pattern.compile("d([0-9]+)(.*)").matcher(part);
            if (door.matches()) {
                int d = Integer.parseInt(door.group(1));
                boolean ended = !door.group(2).isEmpty() || !cut || wrongFault / 1000 != -2;
                if (ended && d > 15) {
                    faults.putIfAbsent(start + 1, fault(3, start + 1));
                } else if (door.group(2).startsWith("!") && !toldDoors.remove(d)) {
                    faults.putIfAbsent(start + 1, fault(7, start + 1));
                } else if (door.group(2).startsWith(":")) {
                    toldDoors.add(d);
                }
            } else {
                Matcher two = Pattern.compile("([0-9]+)([&/]?)([0-9]*)").matcher(part);
                if (two.matches()) {
                    boolean cutDigits = cut && wrongFault / 1000 == -2;
                    boolean firstEnded = !two.group(2).isEmpty() || !cutDigits;
                    int place = start + two.start(3);
                    if (firstEnded && !people.containsKey(Integer.parseInt(two.group(1)))) {
                        faults.putIfAbsent(start, fault(7, start));
                    } else if (!two.group(3).isEmpty() && !cutDigits) {
                        int q = Integer.parseInt(two.group(3));
                        if (!people.containsKey(q)) {
                            faults.putIfAbsent(place, fault(7, place));
                        } else if (q == Integer.parseInt(two.group(1))) {
                            faults.putIfAbsent(place, fault(6, place));
                        }
                    }
                }
            }
            start += part.length() + 1;
            line++;
        }
        if (!faults.isEmpty()) {
            return faults.firstEntry().getValue();
        }
        String[] parts = text.split(";");
        for (String part : parts) {
            String[] numbers = part.replaceAll("[^0-9]+", " ").trim().split(" ");
            int one = Integer.parseInt(numbers[0]);
            if (part.endsWith("!")) {
                doors.remove(one);
                opened[one] = 0;
            } else if (part.startsWith("d")) {
                Door door = new Door();
                door.fear = part.charAt(part.indexOf(':') + 1) - 'a';
                door.strength = Integer.parseInt(numbers[1]);
                doors.put(one, door);
                opened[one] = 0;
            } else {
                int other = Integer.parseInt(numbers[1]);
                if (part.contains("&")) {
                    people.get(one).knows.add(other);
                    people.get(other).knows.add(one);
                } else {
                    people.get(one).knows.remove(other);
                    people.get(other).knows.remove(one);
                }
            }
        }
        return parts.length;
    }

    // ---- THE LAW: a machine with a stack of what is open says where it can't go on

    private enum Due { RULE, FACTOR, BEHIND_FACTOR, TEST, BEHIND_TEST, OPENING, BEHIND_RULE }

    int law(int n) {
        if (lacks(n, 1, 240)) {
            return -1;
        }
        String text = takeText(n);
        int answer = lawFault(text);
        if (answer > 0) {
            law = text;
        }
        return answer;
    }

    private static int lawFault(String text) {
        Due due = Due.RULE;
        Deque<Character> open = new ArrayDeque<>();
        boolean inE = false;
        boolean compared = false;
        Deque<Boolean> compareds = new ArrayDeque<>();
        int rules = 0;
        int digits = 0;
        for (int i = 0; i <= text.length(); i++) {
            char c = i < text.length() ? text.charAt(i) : 0xFFFF;
            boolean number = c >= '0' && c <= '9';
            if (digits > 0 && number) {
                if (digits == 5) {
                    return fault(2, i);
                }
                digits++;
                continue;
            }
            digits = 0;
            if (due == Due.TEST && c != '(' && c != '!') {
                due = Due.FACTOR;
                compared = false;
            }
            switch (due) {
                case RULE -> {
                    if ("ecsx".indexOf(c) < 0) {
                        return fault(1, i);
                    }
                    if (rules == 16) {
                        return fault(4, i);
                    }
                    rules++;
                    inE = c != 'x';
                    due = inE ? Due.FACTOR : Due.OPENING;
                }
                case OPENING -> {
                    if (c != '(') {
                        return fault(1, i);
                    }
                    open.push('(');
                    due = Due.TEST;
                }
                case TEST -> {
                    if (open.size() == 6) {
                        return fault(5, i);
                    }
                    open.push(c);
                }
                case FACTOR -> {
                    if (c == '[') {
                        if (open.size() == 6) {
                            return fault(5, i);
                        }
                        open.push('[');
                        compareds.push(compared);
                    } else if (number) {
                        digits = 1;
                        due = Due.BEHIND_FACTOR;
                    } else if ("kdfvgmnotw".indexOf(c) >= 0) {
                        due = Due.BEHIND_FACTOR;
                    } else {
                        return fault(1, i);
                    }
                }
                case BEHIND_FACTOR -> {
                    boolean inBrackets = !open.isEmpty() && open.peek() == '[';
                    if ("+-*/%".indexOf(c) >= 0) {
                        due = Due.FACTOR;
                    } else if (inBrackets) {
                        if (c != ']') {
                            return fault(1, i);
                        }
                        open.pop();
                        compared = compareds.pop();
                    } else if (inE) {
                        if (c != '(') {
                            return fault(1, i);
                        }
                        inE = false;
                        open.push('(');
                        due = Due.TEST;
                    } else if (!compared) {
                        if ("<>=".indexOf(c) < 0) {
                            return fault(1, i);
                        }
                        compared = true;
                        due = Due.FACTOR;
                    } else {
                        due = Due.BEHIND_TEST;
                        i--;
                    }
                }
                case BEHIND_TEST -> {
                    while (open.peek() == '!') {
                        open.pop();
                    }
                    if (c == '&' || c == '|') {
                        due = Due.TEST;
                    } else if (c == ')') {
                        open.pop();
                        due = open.isEmpty() ? Due.BEHIND_RULE : Due.BEHIND_TEST;
                    } else {
                        return fault(1, i);
                    }
                }
                default -> {
                    if (i == text.length()) {
                        return rules;
                    }
                    if (c != ';') {
                        return fault(1, i);
                    }
                    due = Due.RULE;
                }
            }
        }
        throw new IllegalStateException(text);
    }

    // ---- THE LAW is reckoned by cutting its text at the sign that joins last

    /** The last place (or the first) of one of some signs that is in no brackets; -1 if there is none. */
    private static int cutAt(String text, String signs, boolean last) {
        int depth = 0;
        int found = -1;
        for (int i = 0; i < text.length(); i++) {
            char c = text.charAt(i);
            if (c == '(' || c == '[') {
                depth++;
            } else if (c == ')' || c == ']') {
                depth--;
            } else if (depth == 0 && signs.indexOf(c) >= 0 && (last || found < 0)) {
                found = i;
            }
        }
        return found;
    }

    private static boolean holds(String c, Map<Character, Integer> letters) throws Refused {
        int cut = cutAt(c, "|", false);
        if (cut >= 0) {
            return holds(c.substring(0, cut), letters) || holds(c.substring(cut + 1), letters);
        }
        cut = cutAt(c, "&", false);
        if (cut >= 0) {
            return holds(c.substring(0, cut), letters) && holds(c.substring(cut + 1), letters);
        }
        if (c.startsWith("!")) {
            return !holds(c.substring(1), letters);
        }
        cut = cutAt(c, "<>=", false);
        if (cut < 0) {
            return holds(c.substring(1, c.length() - 1), letters);
        }
        int left = value(c.substring(0, cut), letters);
        int right = value(c.substring(cut + 1), letters);
        return switch (c.charAt(cut)) {
            case '<' -> left < right;
            case '>' -> left > right;
            default -> left == right;
        };
    }

    private static int value(String e, Map<Character, Integer> letters) throws Refused {
        int cut = cutAt(e, "+-", true);
        if (cut < 0) {
            cut = cutAt(e, "*/%", true);
        }
        if (cut < 0) {
            if (e.startsWith("[")) {
                return value(e.substring(1, e.length() - 1), letters);
            }
            Integer letter = letters.get(e.charAt(0));
            return letter != null ? letter : Integer.parseInt(e);
        }
        int left = value(e.substring(0, cut), letters);
        int right = value(e.substring(cut + 1), letters);
        char sign = e.charAt(cut);
        if (right == 0 && (sign == '/' || sign == '%')) {
            throw new Refused();
        }
        long exact = switch (sign) {
            case '+' -> (long) left + right;
            case '-' -> (long) left - right;
            case '*' -> (long) left * right;
            case '/' -> (long) left / right;
            default -> (long) left % right;
        };
        return (int) exact;
    }

    /** The E of the first RULE that holds; for x 1 if any holds. */
    private int weigh(char kind, int most, Map<Character, Integer> letters) {
        if (law.isEmpty()) {
            return 0;
        }
        for (String rule : law.split(";")) {
            if (rule.charAt(0) != kind) {
                continue;
            }
            int opening = rule.indexOf('(');
            boolean holds;
            try {
                holds = holds(rule.substring(opening + 1, rule.length() - 1), letters);
            } catch (Refused refused) {
                holds = false;
            }
            if (holds) {
                try {
                    int value = kind == 'x' ? 1 : value(rule.substring(1, opening), letters);
                    return value < 0 ? 0 : value > most ? most : value;
                } catch (Refused refused) {
                    return 0;
                }
            }
        }
        return 0;
    }

    private static Map<Character, Integer> letters(int... meanings) {
        Map<Character, Integer> letters = new HashMap<>();
        for (int i = 0; i < 10; i++) {
            letters.put("kdfvgmnotw".charAt(i), meanings[i]);
        }
        return letters;
    }

    private static int fearOf(int[] dread) {
        int best = 0;
        for (int f = 1; f < 16; f++) {
            best = dread[f] > dread[best] ? f : best;
        }
        for (int f = 0; f < 16; f++) {
            if (f != best && dread[f] == dread[best]) {
                return -2;
            }
        }
        return best;
    }

    private static int greatest(int[] dread) {
        return Arrays.stream(dread).max().getAsInt();
    }

    private boolean opens(int p, int d) {
        int[] dread = people.get(p).dread;
        Door door = doors.get(d);
        return fearOf(dread) == door.fear && dread[door.fear] >= door.strength;
    }

    private void pass(int n) {
        openings = 0;
        failures = 0;
        for (int i = 0; i < n && night < 9999; i++) {
            for (int p : people.keySet()) {
                goOut(p);
            }
            spread();
            night++;
        }
    }

    private void goOut(int p) {
        x = (int) ((25173L * x + 13849) % 65536);
        Person person = people.get(p);
        int[] dread = person.dread;
        int top = greatest(dread);
        int friends = person.knows.size();
        if (weigh('x', 1, letters(p, 0, 0, 0, top, 0, friends, 0, night % 100, x % 10)) == 1) {
            return;
        }
        int best = -1;
        int most = 0;
        Map<Character, Integer> chosen = null;
        for (int d : doors.keySet()) {
            Door door = doors.get(d);
            Map<Character, Integer> letters = letters(p, d, door.fear, dread[door.fear], top, door.strength, friends,
                opened[d], night % 100, x % 10);
            int wish = weigh('e', 9999, letters);
            if (wish > most) {
                most = wish;
                best = d;
                chosen = letters;
            }
        }
        if (best < 0) {
            return;
        }
        int f = doors.get(best).fear;
        if (opens(p, best)) {
            openings++;
            dread[f] = Math.max(0, dread[f] - weigh('c', 99, chosen));
            opened[best] = Math.min(9999, opened[best] + 1);
        } else {
            failures++;
            dread[f] = Math.min(99, dread[f] + 1);
        }
    }

    private void spread() {
        Map<Integer, int[]> then = new HashMap<>();
        people.forEach((p, person) -> then.put(p, person.dread.clone()));
        for (int p : people.keySet()) {
            for (int q : people.get(p).knows) {
                int f = fearOf(then.get(q));
                if (f >= 0) {
                    int more = weigh('s', 99, letters(p, q, f, then.get(p)[f], greatest(then.get(p)), 0,
                        people.get(p).knows.size(), 0, night % 100, 0));
                    people.get(p).dread[f] = Math.min(99, people.get(p).dread[f] + more);
                }
            }
        }
    }

    int nights(int n) {
        if (n < 1 || n > 100) {
            return -1;
        }
        pass(n);
        return openings;
    }

    int tried(int n, int what) {
        boolean person = what >= 10 && what < 22 && people.containsKey(what - 10)
            || what >= 30 && what < 42 && people.containsKey(what - 30);
        boolean door = what >= 50 && what < 66 && doors.containsKey(what - 50);
        if (n < 1 || n > 100 || !(person || door || what == 0 || what == 1)) {
            return -1;
        }
        Map<Integer, int[]> dreads = new HashMap<>();
        people.forEach((p, one) -> dreads.put(p, one.dread.clone()));
        int[] before = opened.clone();
        int nightBefore = night;
        int drawBefore = x;
        pass(n);
        int answer = what == 0 ? openings : what == 1 ? failures
            : what < 30 ? fearOf(people.get(what - 10).dread)
            : what < 50 ? greatest(people.get(what - 30).dread) : opened[what - 50];
        people.forEach((p, one) -> one.dread = dreads.get(p));
        opened = before;
        night = nightBefore;
        x = drawBefore;
        return answer;
    }

    // ---- what is asked of the city

    private static int bits(Iterable<Integer> numbers) {
        int bits = 0;
        for (int number : numbers) {
            bits |= 1 << number;
        }
        return bits;
    }

    int personIs(int p, int what) {
        if (!people.containsKey(p)) {
            return -1;
        }
        int[] dread = people.get(p).dread;
        if (what >= 0 && what < 16) {
            return dread[what];
        }
        return switch (what) {
            case 100 -> fearOf(dread);
            case 101 -> greatest(dread);
            case 102 -> bits(people.get(p).knows);
            case 103 -> bits(doors.keySet().stream().filter(d -> opens(p, d)).toList());
            case 104 -> Arrays.stream(dread).sum();
            default -> -1;
        };
    }

    int doorIs(int d, int what) {
        if (!doors.containsKey(d)) {
            return -1;
        }
        return switch (what) {
            case 0 -> doors.get(d).fear;
            case 1 -> doors.get(d).strength;
            case 2 -> opened[d];
            case 3 -> bits(openers(d));
            default -> -1;
        };
    }

    private List<Integer> openers(int d) {
        return people.keySet().stream().filter(p -> opens(p, d)).toList();
    }

    int taught(int p, int d) {
        if (!people.containsKey(p) || !doors.containsKey(d)) {
            return -1;
        }
        int[] dread = people.get(p).dread;
        int f = doors.get(d).fear;
        int best = Integer.MAX_VALUE;
        for (int own = Math.max(doors.get(d).strength, 1); own < 100; own++) {
            int much = Math.abs(own - dread[f]);
            for (int g = 0; g < 16; g++) {
                much += g != f && dread[g] >= own ? dread[g] - own + 1 : 0;
            }
            best = Math.min(best, much);
        }
        return best;
    }

    int crew(int what) {
        if (what != 0 && what != 1) {
            return -1;
        }
        int best = -1;
        for (int who = 4095; who >= 0; who--) {
            boolean all = true;
            for (int d : doors.keySet()) {
                boolean one = false;
                for (int p : people.keySet()) {
                    one |= (who >> p & 1) == 1 && opens(p, d);
                }
                all &= one;
            }
            if (all && (best < 0 || Integer.bitCount(who) <= Integer.bitCount(best))) {
                best = who;
            }
        }
        return best < 0 ? -2 : what == 0 ? Integer.bitCount(best) : best;
    }

    int lodgings() {
        Map<Integer, Integer> doorOf = new HashMap<>();
        int let = 0;
        for (int d : doors.keySet()) {
            let += lets(d, doorOf, new TreeSet<>()) ? 1 : 0;
        }
        return let;
    }

    private boolean lets(int d, Map<Integer, Integer> doorOf, TreeSet<Integer> asked) {
        for (int p : openers(d)) {
            if (asked.add(p) && (!doorOf.containsKey(p) || lets(doorOf.get(p), doorOf, asked))) {
                doorOf.put(p, d);
                return true;
            }
        }
        return false;
    }

    int couples(int much) {
        return much < 1 || much > 99 ? -1 : couplesOf(new ArrayList<>(people.keySet()), much);
    }

    private int couplesOf(List<Integer> who, int much) {
        if (who.size() < 2) {
            return 0;
        }
        List<Integer> rest = who.subList(1, who.size());
        int best = couplesOf(rest, much);
        int[] one = people.get(who.get(0)).dread;
        for (int q : rest) {
            int[] other = people.get(q).dread;
            boolean both = false;
            for (int f = 0; f < 16; f++) {
                both |= one[f] >= much && other[f] >= much;
            }
            if (both && best < who.size() / 2) {
                List<Integer> others = new ArrayList<>(rest);
                others.remove((Integer) q);
                best = Math.max(best, 1 + couplesOf(others, much));
            }
        }
        return best;
    }

    int fashion(int f, int least, int what) {
        if (f < 0 || f > 15 || least < 1 || least > 11 || what < 0 || what > 1) {
            return -1;
        }
        TreeSet<Integer> have = new TreeSet<>();
        people.forEach((p, person) -> {
            if (fearOf(person.dread) == f) {
                have.add(p);
            }
        });
        int rounds = 0;
        while (true) {
            TreeSet<Integer> come = new TreeSet<>();
            people.forEach((p, person) -> {
                if (!have.contains(p) && person.knows.stream().filter(have::contains).count() >= least) {
                    come.add(p);
                }
            });
            if (come.isEmpty()) {
                return what == 0 ? bits(have) : rounds;
            }
            have.addAll(come);
            rounds++;
        }
    }

    int fears(int what) {
        if (what < 0 || what > 1) {
            return -1;
        }
        int bits = 0;
        for (int f = 0; f < 16; f++) {
            int fear = f;
            boolean fits = people.values().stream().allMatch(p -> (p.dread[fear] == 0) == (what == 0));
            bits |= fits ? 1 << f : 0;
        }
        return bits;
    }

    int unlike(int p, int q) {
        if (!people.containsKey(p) || !people.containsKey(q)) {
            return -1;
        }
        int sum = 0;
        for (int f = 0; f < 16; f++) {
            int[] two = {people.get(p).dread[f], people.get(q).dread[f]};
            Arrays.sort(two);
            sum += two[1] - two[0];
        }
        return sum;
    }

    int mostLike(int p) {
        if (!people.containsKey(p)) {
            return -1;
        }
        return people.keySet().stream().filter(q -> q != p)
            .min((q, r) -> unlike(p, q) != unlike(p, r) ? unlike(p, q) - unlike(p, r) : q - r).orElse(-2);
    }

    int circles(int much, int what) {
        if (much < 0 || much > 1584 || what != 100 && !people.containsKey(what)) {
            return -1;
        }
        int[] circle = new int[12];
        people.keySet().forEach(p -> circle[p] = p);
        for (int p : people.keySet()) {
            for (int q : people.keySet()) {
                if (unlike(p, q) <= much) {
                    int old = circle[q];
                    people.keySet().stream().filter(r -> circle[r] == old).forEach(r -> circle[r] = circle[p]);
                }
            }
        }
        if (what == 100) {
            return (int) people.keySet().stream().map(p -> circle[p]).distinct().count();
        }
        return bits(people.keySet().stream().filter(p -> circle[p] == circle[what]).toList());
    }

    private int stepsWithout(int p, int q, int without) {
        Map<Integer, Integer> far = new HashMap<>();
        Deque<Integer> next = new ArrayDeque<>();
        far.put(p, 0);
        next.add(p);
        while (!next.isEmpty()) {
            int at = next.poll();
            for (int r : people.get(at).knows) {
                if (r != without && !far.containsKey(r)) {
                    far.put(r, far.get(at) + 1);
                    next.add(r);
                }
            }
        }
        return far.getOrDefault(q, -2);
    }

    int keystones() {
        TreeSet<Integer> stones = new TreeSet<>();
        for (int r : people.keySet()) {
            for (int p : people.keySet()) {
                for (int q : people.keySet()) {
                    if (p != r && q != r && stepsWithout(p, q, -1) >= 0 && stepsWithout(p, q, r) < 0) {
                        stones.add(r);
                    }
                }
            }
        }
        return bits(stones);
    }

    int steps(int p, int q) {
        return people.containsKey(p) && people.containsKey(q) ? stepsWithout(p, q, -1) : -1;
    }

    int guess(int n, int what) {
        boolean such = what == 100 || what >= 0 && what <= 15 || what >= 20 && what <= 35;
        if (!such || n < 1 || n > 12 || lacks(2 * n, 2, 24)) {
            return -1;
        }
        int[] tries = takeBytes(2 * n);
        for (int i = 0; i < 2 * n; i += 2) {
            if (!people.containsKey(tries[i]) || tries[i + 1] > 1) {
                return -3;
            }
        }
        TreeMap<Integer, TreeSet<Integer>> strengths = new TreeMap<>();
        for (int f = 0; f < 16; f++) {
            for (int s = 0; s < 100; s++) {
                boolean fits = true;
                for (int i = 0; i < 2 * n; i += 2) {
                    int[] dread = people.get(tries[i]).dread;
                    fits &= (fearOf(dread) == f && dread[f] >= s) == (tries[i + 1] == 1);
                }
                if (fits) {
                    strengths.computeIfAbsent(f, k -> new TreeSet<>()).add(s);
                }
            }
        }
        if (what == 100) {
            return bits(strengths.keySet());
        }
        TreeSet<Integer> fit = strengths.get(what % 20);
        return fit == null ? -2 : what < 20 ? fit.first() : fit.last();
    }

    int sentNext(int fears, int what) {
        if (fears < 1 || fears > 65535 || what < 0 || what > 1) {
            return -1;
        }
        int who = -2;
        int fewest = -2;
        for (int p : people.descendingKeySet()) {
            int left = 0;
            int gone = 0;
            for (int f = 0; f < 16; f++) {
                if ((fears >> f & 1) == 1) {
                    if (fearOf(people.get(p).dread) == f) {
                        left++;
                    } else {
                        gone++;
                    }
                }
            }
            int worst = Math.max(left, gone);
            if (who < 0 || worst <= fewest) {
                who = p;
                fewest = worst;
            }
        }
        return what == 0 ? who : fewest;
    }

    int guards(int n) {
        if (lacks(n, 3, 6)) {
            return -1;
        }
        int[] who = takeBytes(n);
        for (int p : who) {
            if (!people.containsKey(p) || Arrays.stream(who).filter(q -> q == p).count() > 1) {
                return -3;
            }
        }
        int ways = 0;
        for (int number = 0; number < Math.pow(n, n); number++) {
            int[] court = new int[n];
            int rest = number;
            int used = 0;
            for (int i = 0; i < n; i++) {
                used |= 1 << rest % n;
                court[i] = fearOf(people.get(who[rest % n]).dread);
                rest /= n;
            }
            boolean fits = used == (1 << n) - 1;
            for (int i = 0; i < n && fits; i++) {
                fits = court[i] == -2 || court[i] != court[(i + 1) % n];
            }
            ways += fits ? 1 : 0;
        }
        return ways;
    }

    long word(int letters, int fears, int weight) {
        if (letters < 1 || letters > 8 || fears < 0 || fears > 65535 || weight < 0 || weight > 128) {
            return -1;
        }
        Map<Integer, Long> words = new TreeMap<>(Map.of(0, 1L));
        for (int i = 0; i < letters; i++) {
            Map<Integer, Long> longer = new TreeMap<>();
            words.forEach((w, many) -> {
                for (int f = 0; f < 16; f++) {
                    if ((fears >> f & 1) == 1) {
                        longer.merge(w + f + 1, many, Long::sum);
                    }
                }
            });
            words = longer;
        }
        return words.getOrDefault(weight, 0L);
    }

    int rooms(int n, int dread) {
        if (dread < 0 || dread > 99 || lacks(n, 1, 12)) {
            return -1;
        }
        int[] rooms = takeBytes(n);
        int[] left = new int[16];
        for (int f : rooms) {
            if (f > 15) {
                return -3;
            }
            left[f]++;
        }
        int[] counts = Arrays.stream(left).filter(c -> c > 0).sorted().toArray();
        int best = 99;
        for (int last = 0; last < counts.length; last++) {
            int[] then = counts.clone();
            then[last]--;
            best = Math.min(best, leastBehind(then, last, dread, new HashMap<>()));
        }
        return best;
    }

    private static int leastBehind(int[] left, int last, int dread, Map<String, Integer> known) {
        String state = Arrays.toString(left) + last + "," + dread;
        if (known.containsKey(state)) {
            return known.get(state);
        }
        int best = Arrays.stream(left).sum() == 0 ? dread : 99;
        for (int f = 0; f < left.length; f++) {
            if (left[f] > 0) {
                left[f]--;
                best = Math.min(best, leastBehind(left, f,
                    f == last ? Math.min(99, dread + 7) : Math.max(0, dread - 5), known));
                left[f]++;
            }
        }
        known.put(state, best);
        return best;
    }

    // ---- what is kept

    boolean seed(int seed) {
        boolean such = seed >= 0 && seed <= 65535;
        x = such ? seed : x;
        return such;
    }

    int keep() {
        keptDreads = new HashMap<>();
        people.forEach((p, person) -> keptDreads.put(p, person.dread.clone()));
        keptOpened = new HashMap<>();
        doors.keySet().forEach(d -> keptOpened.put(d, opened[d]));
        keptNight = night;
        keptX = x;
        return night;
    }

    boolean undo() {
        if (keptDreads == null) {
            return false;
        }
        people.forEach((p, person) -> person.dread = keptDreads.getOrDefault(p, new int[16]).clone());
        for (int d = 0; d < 16; d++) {
            opened[d] = keptOpened.getOrDefault(d, 0);
        }
        night = keptNight;
        x = keptX;
        return true;
    }

    int check(int n) {
        if (lacks(n, 0, 12)) {
            return -2;
        }
        int[] bytes = takeBytes(n);
        for (int p = 0; p < n; p++) {
            if (bytes[p] != (people.containsKey(p) ? greatest(people.get(p).dread) : 255)) {
                return p;
            }
        }
        return -1;
    }

    int count(int what) {
        return switch (what) {
            case 0 -> night;
            case 1 -> bits(people.keySet());
            case 2 -> bits(doors.keySet());
            case 3 -> people.values().stream().mapToInt(p -> p.knows.size()).sum() / 2;
            case 4 -> Arrays.stream(opened).sum();
            case 5 -> law.isEmpty() ? 0 : law.split(";").length;
            case 6 -> tape.size();
            case 7 -> x;
            default -> -1;
        };
    }
}
