import java.lang.reflect.Method;
import java.util.ArrayList;
import java.util.Arrays;
import java.util.HashMap;
import java.util.List;
import java.util.Map;
import java.util.Set;

/**
 * Runs of calls told as text, each on a new object: "row 0 3 = 3; lay 0 3 1 = BEYOND".
 *
 * Behind '=' stands the answer that is due; a call without one must not be refused. "24x proof 1000 2100 1"
 * is that call 24 times. A run is made once with a call and once without it, and all that the other calls show
 * afterwards must be the same, but for what the document lets the call change: nothing, where it is refused,
 * tells NONE or only asks, but finding(), findings() and what it tells by asked(), upper(), lower().
 */
final class Runs {
    private static final String AS_OF_A_DAY = "span( quarrel( leftOut( heldYear( ";
    private static final String OF_ROWS = AS_OF_A_DAY + "digest( mark( match(";
    private static final String OF_PROOFS = AS_OF_A_DAY + "digest( mark( count(1 count(2 rings( its";
    private static final String OF_CHANCES = "digest( chance( likely( gain next( claim( then ";

    /** The calls that change something, and with what the names begin by which that may be seen. */
    private static final Map<String, String> CHANGING = Map.ofEntries(
            Map.entry("later", "count(0 digest( claim( sold( then"), Map.entry("row", OF_ROWS),
            Map.entry("lay", OF_ROWS), Map.entry("tear", OF_ROWS), Map.entry("copy", OF_ROWS),
            Map.entry("paint", AS_OF_A_DAY + "digest("), Map.entry("sap", AS_OF_A_DAY + "digest( mark( its"),
            Map.entry("proof", OF_PROOFS), Map.entry("found", OF_PROOFS), Map.entry("rings", OF_PROOFS),
            Map.entry("threads", OF_PROOFS), Map.entry("strike", AS_OF_A_DAY + "digest( count(2"),
            Map.entry("hand", OF_CHANCES + "hand("),
            Map.entry("test", "digest( count(3 gain next("), Map.entry("often", "digest( gain next("),
            Map.entry("done", OF_CHANCES + "count(4"), Map.entry("owner", "digest( count(5 gaps("),
            Map.entry("opinion", "digest( count(6 spread( mean("), Map.entry("sold", "claim("),
            Map.entry("law", "digest( count(7 claim( then"));
    private static final Set<String> TELLING_ASKED = Set.of("match", "quarrel", "leftOut", "gaps", "spread", "claim");
    private static final Set<String> TELLING_FRACTIONS = Set.of("chance", "gain");
    private static final List<String> FINDINGS = List.of("NOTHING", "BEYOND", "UNLIKE", "NOUGHT", "SIZE");
    private static final Map<String, Integer> WORDS = Map.of("BAD", -1, "FULL", -2, "STATE", -4, "NONE", -9,
            "min", Integer.MIN_VALUE, "max", Integer.MAX_VALUE);
    private static final Map<String, Method> METHODS = new HashMap<>();

    static {
        for (Method method : PictureCourt.class.getDeclaredMethods()) {
            METHODS.put(method.getName(), method);
        }
    }

    private final Checks checks = new Checks();

    private record Call(String text, Method method, Object[] arguments, String due) {
        long on(PictureCourt x) {
            try {
                return ((Number) method.invoke(x, arguments)).longValue();
            } catch (ReflectiveOperationException e) {
                throw new IllegalStateException(text + ": " + e.getCause(), e);
            }
        }

        String name() {
            return method.getName();
        }

        /** 1 to 5, or 0 where no FINDING is due. */
        int finding() {
            return due == null ? 0 : FINDINGS.indexOf(due) + 1;
        }
    }

    /** The words of a promise that the runs behind this hold it to. */
    void sentence(int promise, String words) {
        checks.promise(promise, words);
    }

    /** The same, for words that stand ahead of promise 1. */
    void term(String words) {
        checks.promise(0, words);
    }

    void end() {
        checks.end();
    }

    Checks checks() {
        return checks;
    }

    void run(String text) {
        List<Call> calls = callsOf(text);
        PictureCourt x = new PictureCourt();
        for (int k = 0; k < calls.size(); k++) {
            Call call = calls.get(k);
            long got = call.on(x);
            answerDue(call, got, text);
            if (call.due != null || k == calls.size() - 1) {
                compareWithout(call, got, calls.subList(0, k), text);
            }
        }
    }

    /** Tries numbers in the place of '%': the least and the most are taken, what is below or above is BAD. */
    void edges(String before, String call, int least, int most) {
        edges(before, call, least, most, "BAD", "BAD");
    }

    void edges(String before, String call, int least, int most, String below, String above) {
        String start = before.isEmpty() ? "" : before + "; ";
        for (int n : new int[] {least, most}) {
            run(start + call.replace("%", "" + n));
        }
        for (int n : new int[] {least - 1, Integer.MIN_VALUE}) {
            run(start + call.replace("%", "" + n) + " = " + below);
        }
        for (int n : new int[] {most + 1, Integer.MAX_VALUE}) {
            run(start + call.replace("%", "" + n) + " = " + above);
        }
    }

    /** The text once for each number, which takes the place of '#'. */
    static String each(int first, int last, String text) {
        List<String> parts = new ArrayList<>();
        for (int n = first; n <= last; n++) {
            parts.add(text.replace("#", "" + n));
        }
        return String.join("; ", parts);
    }

    private void answerDue(Call call, long got, String text) {
        String told = call.text + " in: " + text;
        if (call.due == null) {
            checks.holds(told + ": " + call.text + " answered " + got + ", it must not be refused", got >= 0);
        } else if (call.finding() > 0) {
            checks.due(told, got, PictureCourt.FINDING);
        } else {
            checks.due(told, got, WORDS.containsKey(call.due) ? WORDS.get(call.due) : Long.parseLong(call.due));
        }
    }

    private void compareWithout(Call call, long got, List<Call> before, String text) {
        if (before.size() + Look.MOST_CALLS > 512) {
            throw new IllegalStateException("too long a run: " + text);
        }
        Map<String, Long> due = Look.at(after(before));
        PictureCourt x = after(before);
        call.on(x);
        Map<String, Long> seen = Look.at(x);
        if (call.finding() > 0) {
            due.put("finding()", (long) call.finding());
            due.merge("findings(" + call.finding() + ")", 1L, Long::sum);
        }
        boolean isChanging = CHANGING.containsKey(call.name()) && got >= 0;
        for (String name : due.keySet()) {
            boolean isOpen = isChanging ? mayChange(call, name, seen) : mayTell(call, got, name);
            if (!isOpen) {
                checks.due(name + " behind " + call.text + " in: " + text, seen.getOrDefault(name, Long.MIN_VALUE),
                        due.get(name));
            }
        }
    }

    /** What a change is not seen by must be as without it; a name may be gone, where it tells a number or a day. */
    private static boolean mayChange(Call call, String name, Map<String, Long> seen) {
        String shown = name.replaceFirst("^(asked|upper|lower)\\(\\) behind ", "");
        for (String start : CHANGING.get(call.name()).split("\\s+")) {
            if (shown.startsWith(start)) {
                return true;
            }
        }
        return call.name().equals("later") && !seen.containsKey(name);
    }

    private static boolean mayTell(Call call, long got, String name) {
        boolean isTelling = call.name().equals("claim") ? got == 1 : got >= 0;
        boolean isTold = name.equals("asked()") && TELLING_ASKED.contains(call.name())
                || (name.equals("upper()") || name.equals("lower()")) && TELLING_FRACTIONS.contains(call.name());
        return isTelling && isTold;
    }

    private static PictureCourt after(List<Call> calls) {
        PictureCourt x = new PictureCourt();
        calls.forEach(call -> call.on(x));
        return x;
    }

    private static List<Call> callsOf(String text) {
        List<Call> calls = new ArrayList<>();
        for (String part : text.split(";")) {
            String[] words = part.trim().split("\\s+");
            boolean isMany = words[0].matches("\\d+x");
            int times = isMany ? Integer.parseInt(words[0].replace("x", "")) : 1;
            Call call = callOf(isMany ? Arrays.copyOfRange(words, 1, words.length) : words);
            for (int n = 0; n < times; n++) {
                calls.add(call);
            }
        }
        return calls;
    }

    private static Call callOf(String[] words) {
        int end = Arrays.asList(words).indexOf("=");
        String due = end < 0 ? null : words[end + 1];
        String[] told = end < 0 ? words : Arrays.copyOf(words, end);
        Method method = METHODS.get(told[0]);
        if (method == null || method.getParameterCount() != told.length - 1) {
            throw new IllegalStateException("no such call: " + String.join(" ", words));
        }
        Object[] arguments = new Object[told.length - 1];
        for (int i = 0; i < arguments.length; i++) {
            arguments[i] = argument(told[i + 1]);
        }
        return new Call(String.join(" ", told), method, arguments, due);
    }

    private static Object argument(String word) {
        if (word.equals("true") || word.equals("false")) {
            return word.equals("true");
        }
        return WORDS.containsKey(word) ? WORDS.get(word) : (Object) Integer.parseInt(word);
    }
}
