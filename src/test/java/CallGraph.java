import java.util.ArrayList;
import java.util.List;
import java.util.Map;
import java.util.Set;
import java.util.TreeMap;
import java.util.TreeSet;
import java.util.regex.Matcher;
import java.util.regex.Pattern;

/** Who calls whom, told from the source's words: a call on an object may be of any class that has such a method. */
final class CallGraph {
    private static final Pattern CALL = Pattern.compile("([\\w\\])]*)(\\.?)\\b(\\w+)\\(");

    /** The calls of each Class.method as they are written, with the class ahead where it is told. */
    private final Map<String, Set<String>> calls = new TreeMap<>();

    void add(String className, String method, String body) {
        Set<String> called = calls.computeIfAbsent(className + "." + method, n -> new TreeSet<>());
        Matcher m = CALL.matcher(body);
        while (m.find()) {
            boolean onObject = !m.group(2).isEmpty();
            boolean onClass = onObject && !m.group(1).isEmpty() && Character.isUpperCase(m.group(1).charAt(0));
            called.add((!onObject ? className : onClass ? m.group(1) : "?") + "." + m.group(3));
        }
    }

    Set<String> methods() {
        return calls.keySet();
    }

    private Set<String> called(String method) {
        Set<String> found = new TreeSet<>();
        for (String call : calls.get(method)) {
            for (String other : calls.keySet()) {
                if (call.startsWith("?") ? other.endsWith(call.substring(1)) : other.equals(call)) {
                    found.add(other);
                }
            }
        }
        return found;
    }

    /** How many calls stand open at most, itself with them; a method that comes back to itself counts for nothing. */
    int depth(String method) {
        return depth(method, new ArrayList<>());
    }

    private int depth(String method, List<String> open) {
        if (open.contains(method)) {
            return 0;
        }
        open.add(method);
        int deepest = 0;
        for (String called : called(method)) {
            deepest = Math.max(deepest, depth(called, open));
        }
        open.remove(open.size() - 1);
        return deepest + (reaches(method, method, new TreeSet<>()) ? 0 : 1);
    }

    private boolean reaches(String from, String method, Set<String> seen) {
        for (String called : called(from)) {
            if (called.equals(method) || seen.add(called) && reaches(called, method, seen)) {
                return true;
            }
        }
        return false;
    }
}
