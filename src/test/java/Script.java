import java.lang.reflect.InvocationTargetException;
import java.lang.reflect.Method;
import java.util.Arrays;
import java.util.HashMap;
import java.util.Map;
import java.util.regex.Matcher;
import java.util.regex.Pattern;

/**
 * A test as rows of calls on a new object, each with the answer that is due:
 * <pre>
 *   set(3, 0, 6) = 3 | count(0) = 6     calls, with | between
 *   new                                 a new object from here on
 *   house 4: 3 10 0, 0 120 0            so many rooms, and doors by kind, where, number
 *   lay 0 2: 0 1 1                      a sheet of a sort, and its items
 *   say "shut 0"                        onto the tape; %0A is the byte 10
 *   text "shut 0" = -106                a new object is told a text, and what text() answers
 *   rule "shut 0;cost 0;wish 1;"        a text that becomes the rule
 *   worth "1 + 1" = 2                   what an expression says, cut to 0 .. 99
 * </pre>
 */
final class Script extends Asking {
    private static final Pattern CALL = Pattern.compile("(\\w+)\\(([^)]*)\\) = (-?\\d+)");
    private static final Pattern QUOTED = Pattern.compile("(\\w+) \"(.*)\"(?: = (-?\\d+))?");
    private static final int CALLS_AT_MOST = 512;
    private static final Map<String, Method> METHODS = methods();

    private final String sentence;
    private DoorsRemember x = new DoorsRemember();
    private int calls = 0;

    private Script(String sentence) {
        this.sentence = sentence;
    }

    static void run(String sentence, String lines) {
        int before = asked;
        Script script = new Script(sentence);
        for (String line : lines.split("\n")) script.line(line.trim());
        if (asked == before) throw new IllegalStateException("nothing is asked of: " + sentence);
    }

    private static Map<String, Method> methods() {
        Map<String, Method> methods = new HashMap<>();
        for (Method m : DoorsRemember.class.getDeclaredMethods()) methods.put(m.getName(), m);
        return methods;
    }

    private void line(String line) {
        Matcher quoted = QUOTED.matcher(line);
        if (line.isEmpty()) return;
        if (line.equals("new")) {
            renew();
        } else if (line.startsWith("house ")) {
            house(line.substring(6).split("[:,]"));
        } else if (line.startsWith("lay ")) {
            lay(line.substring(4).split("[: ]+"));
        } else if (quoted.matches()) {
            quoted(quoted.group(1), bytes(quoted.group(2)), quoted.group(3));
        } else {
            for (String call : line.split("\\|")) call(call.trim());
        }
    }

    private void renew() {
        x = new DoorsRemember();
        calls = 0;
    }

    private void house(String[] parts) {
        ask("set(3, 0, " + parts[0].trim() + ")", 3);
        for (int i = 1; i < parts.length; i++) {
            ask("door(" + parts[i].trim().replace(" ", ", ") + ")", i - 1);
        }
    }

    private void lay(String[] parts) {
        ask("sheet(" + parts[0] + ", " + parts[1] + ", " + (parts.length - 2) + ")", 1);
        for (int i = 2; i < parts.length; i++) ask("cell(" + parts[0] + ", " + (i - 2) + ", " + parts[i] + ")", 1);
    }

    private void quoted(String verb, String text, String want) {
        if (verb.equals("worth")) {
            due("[" + sentence + "] " + text, worth(text), Long.parseLong(want));
            return;
        }
        if (verb.equals("text")) renew();
        else if (!verb.equals("say") && !verb.equals("rule")) throw new IllegalStateException(verb);
        calls += (text.length() + 7) / 8;
        say(x, text);
        if (verb.equals("say")) return;
        if (verb.equals("text")) {
            askAs("text() of \"" + text + "\"", "text", "", Long.parseLong(want));
            return;
        }
        int number = x.count(4);
        ask("text()", number);
        calls += 3;
        int was = x.count(6);
        ask("force(" + number + ")", was);
    }

    private void call(String call) {
        Matcher m = CALL.matcher(call);
        if (!m.matches()) throw new IllegalStateException("no call: " + call);
        askAs(m.group(1) + "(" + m.group(2) + ")", m.group(1), m.group(2), Long.parseLong(m.group(3)));
    }

    private void ask(String call, long want) {
        int open = call.indexOf('(');
        askAs(call, call.substring(0, open), call.substring(open + 1, call.length() - 1), want);
    }

    private void askAs(String told, String name, String args, long want) {
        calls++;
        if (calls > CALLS_AT_MOST) throw new IllegalStateException("too many calls: " + sentence);
        due("[" + sentence + "] " + told, answer(name, args), want);
    }

    private long answer(String name, String args) {
        Method method = METHODS.get(name);
        if (method == null) throw new IllegalStateException("no method " + name);
        Class<?>[] types = method.getParameterTypes();
        String[] words = args.isEmpty() ? new String[0] : args.split(", *");
        if (types.length != words.length) throw new IllegalStateException(name + " " + Arrays.toString(words));
        Object[] values = new Object[words.length];
        for (int i = 0; i < words.length; i++) {
            long v = Long.decode(words[i]);
            if (types[i] == long.class) values[i] = v;
            else values[i] = Math.toIntExact(v);
        }
        try {
            return ((Number) method.invoke(x, values)).longValue();
        } catch (InvocationTargetException | IllegalAccessException e) {
            throw new IllegalStateException(name + "(" + args + ") threw", e);
        }
    }

    /** A text with its %XX as bytes. */
    private static String bytes(String text) {
        StringBuilder out = new StringBuilder();
        for (int i = 0; i < text.length(); i++) {
            if (text.charAt(i) == '%') {
                out.append((char) Integer.parseInt(text.substring(i + 1, i + 3), 16));
                i += 2;
            } else {
                out.append(text.charAt(i));
            }
        }
        return out.toString();
    }
}
