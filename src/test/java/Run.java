import java.lang.reflect.Method;
import java.util.ArrayList;
import java.util.HashMap;
import java.util.List;
import java.util.Map;

/**
 * A row of calls that can be made again on a new object: what it leaves can be looked at in many ways, and none of the
 * objects is called more than the 512 times for which the document speaks.
 *
 * A call is told as "figure 0 1 7700 20 -1"; MIN, MAX and the names of the constants may stand for numbers. "tape odd c"
 * empties the tape and puts bytes there, "text odd c" reads them too; characters 0 .. 255 are bytes.
 */
final class Run {
    static final int MOST_CALLS = 512;
    private static final Map<String, Integer> PARAMETERS = parameters();
    private final List<Call> calls;

    record Call(String name, int[] arguments) {
        int on(TwinTables x) {
            return Caller.call(x, name, arguments);
        }
    }

    Run(String... told) {
        this(List.of(), told);
    }

    private Run(List<Call> first, String... told) {
        calls = new ArrayList<>(first);
        for (String each : told) calls.addAll(read(each));
    }

    /** This run and what is told behind it; this one stays as it is. */
    Run then(String... told) {
        return new Run(calls, told);
    }

    Run thenCall(String name, int[] arguments) {
        Run longer = new Run(calls);
        longer.calls.add(new Call(name, arguments));
        return longer;
    }

    Run times(int many, String told) {
        Run longer = this;
        for (int k = 0; k < many; k++) longer = longer.then(told);
        return longer;
    }

    int size() {
        return calls.size();
    }

    TwinTables made() {
        if (calls.size() > MOST_CALLS) throw new IllegalStateException(calls.size() + " calls are more than a run has");
        TwinTables x = new TwinTables();
        for (Call call : calls) call.on(x);
        return x;
    }

    /** What the last call answers. */
    int last() {
        if (calls.size() > MOST_CALLS) throw new IllegalStateException(calls.size() + " calls are more than a run has");
        TwinTables x = new TwinTables();
        int answer = 0;
        for (Call call : calls) answer = call.on(x);
        return answer;
    }

    int answer(String told) {
        return then(told).last();
    }

    /** What calls answer behind this run, one behind the other on one object. */
    int[] answers(List<Call> more) {
        if (calls.size() + more.size() > MOST_CALLS) throw new IllegalStateException("more calls than a run has: " + (calls.size() + more.size()));
        TwinTables x = made();
        int[] answers = new int[more.size()];
        for (int k = 0; k < answers.length; k++) answers[k] = more.get(k).on(x);
        return answers;
    }

    static List<Call> read(String told) {
        List<Call> read = new ArrayList<>();
        if (told.startsWith("text ") || told.startsWith("tape ")) {
            readTape(told.substring(5), read);
            if (told.startsWith("text ")) read.add(new Call("text", new int[5]));
            return read;
        }
        String[] words = told.split(" ");
        Integer due = PARAMETERS.get(words[0]);
        if (due == null || due != words.length - 1) throw new IllegalArgumentException("no such call: " + told);
        int[] arguments = new int[5];
        for (int k = 1; k < words.length; k++) arguments[k - 1] = number(words[k]);
        read.add(new Call(words[0], arguments));
        return read;
    }

    private static void readTape(String bytes, List<Call> read) {
        read.add(new Call("trim", new int[5]));
        for (int k = 0; k < bytes.length(); k += 12) {
            read.add(new Call("feed", new int[] {Due.four(bytes, k), Due.four(bytes, k + 4), Due.four(bytes, k + 8), 0, 0}));
        }
        read.add(new Call("trim", new int[] {bytes.length(), 0, 0, 0, 0}));
    }

    private static int number(String word) {
        switch (word) {
            case "MIN": return Integer.MIN_VALUE;
            case "MAX": return Integer.MAX_VALUE;
            case "BAD": return Due.BAD;
            case "NONE": return Due.NONE;
            default: return Integer.parseInt(word);
        }
    }

    private static Map<String, Integer> parameters() {
        Map<String, Integer> many = new HashMap<>();
        for (Method m : TwinTables.class.getMethods()) {
            if (m.getDeclaringClass() == TwinTables.class) many.put(m.getName(), m.getParameterCount());
        }
        return many;
    }
}
