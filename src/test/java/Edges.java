import java.io.IOException;
import java.lang.reflect.InvocationTargetException;
import java.lang.reflect.Method;
import java.nio.file.Files;
import java.nio.file.Path;
import java.util.ArrayList;
import java.util.Arrays;
import java.util.HashMap;
import java.util.List;
import java.util.Map;

/**
 * Runs of calls at the edges that the document names. Each names its promise and quotes the document's sentence, which
 * must stand there. A run is told in lines, "call numbers = answer", with commas between calls and # ahead of a remark:
 * MIN and MAX are an int's, no is -1000000, NO the long of chance(); "160* feed 32" is called so often, the last answer
 * being due. A ! stands ahead of a call that is refused.
 *
 * A run is made three times: on a new object, on a second one without the calls that are refused and those that only
 * ask, and on the Oracle. All must answer alike, and be alike by all that can be asked behind the run: so a refused
 * call that changes something is found.
 */
final class Edges {
    private static final List<String> ASKING = List.of(
        "told", "run", "society", "cheapest", "most", "haze", "premium", "best", "agree", "tells", "drawn", "chance", "count", "taken");
    private static final Map<String, Method> CALLS = new HashMap<>();
    private static final Map<String, Method> ORACLES_CALLS = new HashMap<>();

    private final String test;
    private final Check check;
    private String terms = "";
    private final Map<Integer, String> promises = new HashMap<>();
    private final Map<Integer, Integer> runs = new HashMap<>();
    private String heading = "";

    Edges(String test) throws IOException {
        this.test = test;
        check = new Check(test);
        readDocument();
        for (Method m : RememberedAsSunny.class.getMethods()) {
            if (m.getDeclaringClass() == RememberedAsSunny.class) {
                CALLS.put(m.getName(), m);
            }
        }
        for (Method m : Oracle.class.getDeclaredMethods()) {
            Method call = CALLS.get(m.getName());
            if (call != null && Arrays.equals(call.getParameterTypes(), m.getParameterTypes())) {
                ORACLES_CALLS.put(m.getName(), m);
            }
        }
    }

    private void readDocument() throws IOException {
        for (String part : Files.readString(Path.of("../shared/DOC.md")).split("\n## ")) {
            if (part.startsWith("Promise ")) {
                promises.put(Integer.parseInt(part.substring(8, part.indexOf(':'))), plain(part));
            } else if (part.startsWith("Terms")) {
                terms = plain(part);
            }
        }
    }

    private static String plain(String text) {
        return text.replaceAll("\\s+", " ");
    }

    private boolean isSaid(int promise, String sentence) {
        return promises.getOrDefault(promise, "").contains(plain(sentence)) || terms.contains(plain(sentence));
    }

    /** A run that would answer otherwise, if the sentence were broken. */
    void promise(int number, String sentence, String run) {
        heading = "promise " + number + " (" + sentence + "): ";
        runs.merge(number, 1, Integer::sum);
        check.that(heading + "the document says so", isSaid(number, sentence));
        List<Call> calls = read(run);
        check.that(heading + "a call that is refused has its answer", calls.stream().allMatch(c -> c.hasDue || !c.refused));
        Subject x = new Subject(new RememberedAsSunny());
        Subject without = new Subject(new RememberedAsSunny());
        Subject oracle = new Subject(new Oracle());
        for (Call call : calls) {
            long got = x.answer(call);
            call.checkAgainst(got);
            if (call.changes()) {
                check.due(heading + call.line + ", without what was refused,", without.answer(call), got);
            }
            check.due(heading + call.line + " of the Oracle", oracle.answer(call), got);
        }
        String all = new Probe(x).all();
        same("without what was refused and asked it is", all, new Probe(without).all());
        same("by the Oracle it is", all, new Probe(oracle).all());
        check.that(heading + x.made + " calls, 512 at most", x.made <= 512);
    }

    private void same(String what, String all, String other) {
        check.that(heading + "at last\n" + all + "\n" + what + "\n" + other + "\n", all.equals(other));
    }

    /** Ends the test: all promises of first .. last must have had their runs. */
    void end(int first, int last) {
        for (int number = first; number <= last; number++) {
            check.that(test + " tests promise " + number, runs.getOrDefault(number, 0) > 0);
        }
        check.end();
    }

    // ---- a run's words

    private final class Call {
        String line;
        boolean refused = false;
        int times = 1;
        String name;
        int[] args;
        /** Its text is the one that text() told last. */
        boolean ofLastText = false;
        boolean hasDue = false;
        long due;

        boolean changes() {
            return !refused && !ASKING.contains(name);
        }

        void checkAgainst(long got) {
            if (hasDue) {
                check.due(heading + line, got, due);
            }
            if (ofLastText) {
                check.that(heading + line + " is a text", got >= 0);
            }
        }
    }

    private List<Call> read(String run) {
        List<Call> calls = new ArrayList<>();
        for (String line : run.split("\n")) {
            for (String call : statements(line)) {
                readOne(call, calls);
            }
        }
        return calls;
    }

    /** Parts a line at its commas, leaves out what is behind a #; neither within quotes. */
    private static List<String> statements(String line) {
        List<String> found = new ArrayList<>();
        StringBuilder one = new StringBuilder();
        boolean quoted = false;
        for (char c : (line + ",").toCharArray()) {
            quoted ^= c == '"';
            if (c == '#' && !quoted) {
                break;
            }
            if (c == ',' && !quoted) {
                found.add(one.toString());
                one.setLength(0);
            } else {
                one.append(c);
            }
        }
        found.add(one.toString());
        found.replaceAll(String::trim);
        found.removeIf(String::isEmpty);
        return found;
    }

    private void readOne(String told, List<Call> calls) {
        String rest = told;
        boolean refused = rest.startsWith("!");
        rest = refused ? rest.substring(1).trim() : rest;
        String name = rest.split("[ =]")[0];
        int quote = rest.indexOf('"');
        String quoted = quote < 0 ? "" : unescaped(rest.substring(quote + 1, rest.lastIndexOf('"')));
        String[] numbers = quote < 0 ? rest.substring(name.length()).split("=")[0].trim().split(" +") : new String[0];
        switch (name) {
            case "tape": feed(quoted, told, calls); return;
            case "fault": fault(quoted, told, calls); return;
            case "rule": rule(quoted, told, calls); return;
            case "weathers": weathers(numbers, told, calls); return;
            case "row": row(numbers, told, calls); return;
            default: calls.add(call(rest, told, refused));
        }
    }

    private Call call(String rest, String told, boolean refused) {
        Call call = new Call();
        call.line = told;
        call.refused = refused;
        String[] sides = rest.split("=");
        String[] words = sides[0].trim().split(" +");
        int from = words[0].endsWith("*") ? 1 : 0;
        call.times = from == 1 ? Integer.parseInt(words[0].substring(0, words[0].length() - 1)) : 1;
        call.name = words[from];
        call.args = new int[words.length - from - 1];
        for (int i = 0; i < call.args.length; i++) {
            call.args[i] = (int) number(words[from + 1 + i]);
        }
        if (sides.length > 1) {
            call.hasDue = true;
            call.due = number(sides[1].trim());
        }
        return call;
    }

    private void add(List<Call> calls, String told, String rest) {
        calls.add(call(rest, told, false));
    }

    private void feed(String bytes, String told, List<Call> calls) {
        for (int i = 0; i < bytes.length(); i++) {
            add(calls, told, "feed " + (int) bytes.charAt(i));
        }
    }

    /** A tape whose fault stands at the ^, which is not fed; a fault leaves neither a text nor the tape. */
    private void fault(String marked, String told, List<Call> calls) {
        int place = marked.indexOf('^');
        feed(marked.substring(0, place) + marked.substring(place + 1), told, calls);
        add(calls, told, "text = " + (-100 - place));
        add(calls, told, "count 4 = 0");
    }

    /** A text, which is made THE RULE. */
    private void rule(String text, String told, List<Call> calls) {
        feed(text, told, calls);
        add(calls, told, "text");
        Call force = call("force 0", told, false);
        force.ofLastText = true;
        calls.add(force);
    }

    private void weathers(String[] numbers, String told, List<Call> calls) {
        for (int hour = 0; hour < numbers.length; hour++) {
            add(calls, told, "set 3 " + hour + " " + numbers[hour]);
        }
    }

    /** A SHEET, its sort, its items. */
    private void row(String[] numbers, String told, List<Call> calls) {
        add(calls, told, "sheet " + numbers[0] + " " + numbers[1] + " " + (numbers.length - 2) + " = 1");
        for (int i = 2; i < numbers.length; i++) {
            add(calls, told, "cell " + numbers[0] + " " + (i - 2) + " " + numbers[i] + " = 1");
        }
    }

    private static String unescaped(String told) {
        StringBuilder text = new StringBuilder();
        for (int i = 0; i < told.length(); i++) {
            if (told.charAt(i) == '%') {
                text.append((char) Integer.parseInt(told.substring(i + 1, i + 3), 16));
                i += 2;
            } else {
                text.append(told.charAt(i));
            }
        }
        return text.toString();
    }

    private static long number(String word) {
        switch (word) {
            case "MIN": return Integer.MIN_VALUE;
            case "MAX": return Integer.MAX_VALUE;
            case "no": return -1000000;
            case "NO": return -4611686018427387904L;
            default: return Long.parseLong(word);
        }
    }

    // ---- what is called

    private static final class Subject {
        private final Object object;
        private final Map<String, Method> calls;
        int made = 0;
        private int lastText = -1;

        Subject(Object object) {
            this.object = object;
            calls = object instanceof Oracle ? ORACLES_CALLS : CALLS;
        }

        long answer(Call call) {
            if (call.ofLastText) {
                return answer("force", lastText);
            }
            long last = 0;
            for (int i = 0; i < call.times; i++) {
                last = answer(call.name, call.args);
            }
            lastText = call.name.equals("text") ? (int) last : lastText;
            return last;
        }

        long answer(String name, int... args) {
            Object[] given = new Object[args.length];
            for (int i = 0; i < args.length; i++) {
                given[i] = args[i];
            }
            made++;
            try {
                return ((Number) calls.get(name).invoke(object, given)).longValue();
            } catch (InvocationTargetException | IllegalAccessException thrown) {
                throw new IllegalStateException(name + Arrays.toString(args), thrown);
            }
        }
    }

    /** Asks for all that can be asked, at last by calls that change what is there: few enough to stand behind a run. */
    private static final class Probe {
        private final Subject x;
        private final StringBuilder told = new StringBuilder();

        Probe(Subject x) {
            this.x = x;
        }

        String all() {
            counts();
            outing();
            for (int sheet = 0; sheet < 4; sheet++) {
                sheet(sheet);
            }
            ask("text");
            texts();
            ask("back");
            outing();
            return told.toString();
        }

        private long ask(String name, int... args) {
            long answer = x.answer(name, args);
            told.append(name).append(Arrays.toString(args)).append(' ').append(answer).append("; ");
            return answer;
        }

        private void counts() {
            for (int what = 0; what < 6; what++) {
                ask("count", what);
            }
        }

        private void outing() {
            for (int what = 0; what < 3; what++) {
                ask("told", 0, what);
            }
            for (int hour = 0; hour < 8; hour++) {
                ask("told", hour, 3);
                ask("told", hour, 4);
            }
            long people = ask("count", 0);
            for (int one = 0; one < people; one++) {
                ask("told", one, 5);
                ask("told", one, 6);
                ask("told", one, 7);
            }
            ask("count", 5);
        }

        /** Its sort, its size, and what it tells, if it tells 8. */
        private void sheet(int sheet) {
            for (int sort = 0; sort < 3; sort++) {
                ask("people", sheet, sort, 0, 0);
            }
            int least = 0, most = 40;
            while (least < most) {
                int i = (least + most + 1) / 2;
                if (x.answer("copy", sheet, i, sheet, i, 0) == 0) {
                    least = i;
                } else {
                    most = i - 1;
                }
            }
            told.append("size ").append(least).append("; ");
            if (least == 8) {
                for (int hour = 0; hour < 8; hour++) {
                    ask("tells", sheet, 0, 10 + hour);
                }
            }
        }

        private void texts() {
            long texts = ask("count", 3);
            for (int text = 0; text < texts; text++) {
                ask("force", text);
                ask("told", 0, 20);
                ask("told", 0, 30);
                ask("told", 0, 10);
            }
        }
    }
}
