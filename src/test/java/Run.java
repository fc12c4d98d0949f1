import java.util.ArrayList;
import java.util.List;
import java.util.regex.Matcher;
import java.util.regex.Pattern;

/**
 * A run of calls on a new object, written as a text: "side(1, 1, 1, 1)=0 told(1, 0)=UNKNOWN". What stands behind
 * '=' is the answer that is due; without it any answer will do.
 */
final class Run {
    private static final Pattern CALL = Pattern.compile("(\\w+)\\(([^)]*)\\)(?:=(-?\\w+))?\\s*");

    /** The document promises nothing about an object behind this many calls. */
    private static final int MOST_CALLS = 512;

    record Call(Op op, int[] arguments, Integer due) {
        String text() {
            return op.text(arguments);
        }
    }

    private Run() {
    }

    static List<Call> parse(String script) {
        List<Call> calls = new ArrayList<>();
        Matcher m = CALL.matcher(script);
        int at = 0;
        while (at < script.length()) {
            if (!m.find(at) || m.start() != at) throw new IllegalArgumentException("no call: " + script.substring(at));
            String[] words = m.group(2).isBlank() ? new String[0] : m.group(2).split(",");
            int[] arguments = new int[words.length];
            for (int i = 0; i < words.length; i++) arguments[i] = number(words[i].trim());
            Op op = Op.valueOf(m.group(1));
            if (op.arity != arguments.length) throw new IllegalArgumentException(m.group());
            calls.add(new Call(op, arguments, m.group(3) == null ? null : number(m.group(3))));
            at = m.end();
        }
        if (calls.size() > MOST_CALLS) throw new IllegalArgumentException(calls.size() + " calls: " + script);
        return calls;
    }

    private static int number(String word) {
        return switch (word) {
            case "UNKNOWN" -> -1;
            case "BAD" -> -2;
            case "STATE" -> -3;
            case "FULL" -> -4;
            case "NONE" -> -9;
            case "MIN" -> Integer.MIN_VALUE;
            case "MAX" -> Integer.MAX_VALUE;
            case "true" -> 1;
            case "false" -> 0;
            default -> Integer.decode(word);
        };
    }

    static WaxVoices wax(String script) {
        WaxVoices x = new WaxVoices();
        for (Call c : parse(script)) c.op.ask(x, c.arguments);
        return x;
    }

    static NaiveWax naive(String script) {
        NaiveWax n = new NaiveWax();
        for (Call c : parse(script)) c.op.ask(n, c.arguments);
        return n;
    }
}
