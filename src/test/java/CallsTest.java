import java.io.IOException;
import java.nio.file.Files;
import java.nio.file.Path;
import java.util.Map;
import java.util.Set;
import java.util.TreeMap;
import java.util.TreeSet;
import java.util.regex.Matcher;
import java.util.regex.Pattern;

/** Rules 8 and 11 of ../shared/LANGUAGE.md: which methods may call themselves, and how deep calls go. */
public final class CallsTest {
    private static final Pattern HEAD = Pattern.compile("^( {4}| {8})(?!.*\\bclass\\b)([a-z].*?)(\\w+)\\(.*\\) \\{$");
    private static final Pattern CALL = Pattern.compile("\\b([a-z]\\w*)\\(");

    /** By names; methods of one name are taken as one, which can only make more calls than there are. */
    private final Map<String, Set<String>> calls = new TreeMap<>();
    private final Map<String, String> modifiers = new TreeMap<>();
    private final Map<String, Integer> depths = new TreeMap<>();

    public static void main(String[] args) throws IOException {
        Checks checks = new Checks();
        new CallsTest().go(checks, Files.readString(Path.of("src/main/java/FearLocks.java")));
        checks.finish();
    }

    private void go(Checks checks, String text) {
        String code = text.replaceAll("(?s)/\\*.*?\\*/", "").replaceAll("'[^']+'", "0").replaceAll("\"[^\"]*\"", "0");
        readMethods(code.split("\n"));
        for (Set<String> called : calls.values()) {
            called.retainAll(calls.keySet());
        }
        checks.due("all of the face are found", calls.containsKey("feed") && calls.containsKey("count"), true);
        for (String name : calls.keySet()) {
            String how = modifiers.get(name);
            if (calls.get(name).contains(name)) {
                checks.due(name + " calls itself: it is private static", how.contains("private static "), true);
            }
            if (reached(name).contains(name)) {
                checks.due(name + " is a recursion: it is private", how.contains("private "), true);
            }
            checks.due("calls from " + name + " that are no recursion go eight deep at most, " + depth(name),
                depth(name) <= 8, true);
        }
    }

    private void readMethods(String[] lines) {
        for (int i = 0; i < lines.length; i++) {
            Matcher head = HEAD.matcher(lines[i]);
            if (head.matches()) {
                String name = head.group(3);
                modifiers.merge(name, head.group(2), String::concat);
                Set<String> called = calls.computeIfAbsent(name, none -> new TreeSet<>());
                for (i++; !lines[i].equals(head.group(1) + "}"); i++) {
                    Matcher call = CALL.matcher(lines[i]);
                    while (call.find()) {
                        called.add(call.group(1));
                    }
                }
            }
        }
    }

    private Set<String> reached(String from) {
        Set<String> names = new TreeSet<>(calls.get(from));
        int before = -1;
        while (before != names.size()) {
            before = names.size();
            for (String name : names.toArray(new String[0])) {
                names.addAll(calls.get(name));
            }
        }
        return names;
    }

    /** Those that call one another count as one. */
    private int depth(String name) {
        Integer known = depths.get(name);
        if (known != null) {
            return known;
        }
        Set<String> together = new TreeSet<>(Set.of(name));
        for (String other : reached(name)) {
            if (reached(other).contains(name)) {
                together.add(other);
            }
        }
        int deepest = 0;
        for (String one : together) {
            for (String called : calls.get(one)) {
                if (!together.contains(called)) {
                    deepest = Math.max(deepest, depth(called));
                }
            }
        }
        depths.put(name, deepest + 1);
        return deepest + 1;
    }
}
