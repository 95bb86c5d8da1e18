import java.util.ArrayDeque;
import java.util.ArrayList;
import java.util.Arrays;
import java.util.HashMap;
import java.util.HashSet;
import java.util.List;
import java.util.Map;
import java.util.Set;

/**
 * Long mixed runs of calls, each answered by the class and by a model that is written another way: situations are
 * lists, texts are trees, every search walks anew. The runs are drawn by a fixed rule, so they are always the same.
 */
public final class ModelTest {
    private static final int RUNS = 300, CALLS = 500, TEXTS = 6000;
    private static int wrong = 0;
    private static long drawn = 20261118L;

    public static void main(String[] args) {
        for (int run = 0; run < RUNS && wrong < 10; run++) play(run);
        for (int i = 0; i < TEXTS && wrong < 10; i++) playText(i);
        System.out.println(RUNS + " runs of " + CALLS + " calls, " + TEXTS + " texts, " + wrong + " not as the model's");
        if (wrong != 0) System.exit(1);
    }

    private static int draw(int n) {
        drawn = drawn * 6364136223846793005L + 1442695040888963407L;
        return (int) ((drawn >>> 33) % n);
    }

    /** Mostly 0 .. n - 1, sometimes beside it, rarely far off. */
    private static int near(int n) {
        int die = draw(40);
        if (die == 0) return -1 - draw(3);
        if (die == 1) return n + draw(3);
        if (die == 2) return draw(2) == 0 ? Integer.MAX_VALUE - draw(3) : Integer.MIN_VALUE + draw(3);
        return draw(n);
    }

    private static int place(int rooms) {
        return near(rooms) * 100 + draw(rooms) * 10 + draw(4);
    }

    private static void play(int run) {
        DoorsRemember x = new DoorsRemember();
        Model m = new Model();
        List<String> calls = new ArrayList<>();
        if (draw(3) > 0) {
            int rooms = 2 + draw(5);
            check(calls, "set(3, 0, " + rooms + ")", x.set(3, 0, rooms), m.set(3, 0, rooms));
            for (int i = draw(5); i > 0; i--) {
                int kind = run % 2 == 0 ? draw(6) : "0024".charAt(draw(4)) - '0', number = draw(10);
                int where = draw(rooms) * 100 + draw(rooms) * 10 + draw(4);
                check(calls, "door(" + kind + ", " + where + ", " + number + ")", x.door(kind, where, number), m.door(kind, where, number));
            }
        }
        for (int i = calls.size(); i < CALLS; i++) {
            if (!call(draw(64), x, m, calls)) {
                System.out.println("run " + run + ": " + calls);
                return;
            }
        }
    }

    /** One text, and what it says of a few doors. */
    private static void playText(int run) {
        DoorsRemember x = new DoorsRemember();
        Model m = new Model();
        List<String> calls = new ArrayList<>();
        boolean fine = speak(x, m, calls);
        if (fine) fine = check(calls, "force(1)", x.force(1), m.force(1));
        for (int i = 0; fine && i < 3; i++) {
            int kind = draw(6), where = draw(3) * 100 + draw(3) * 10 + draw(4);
            fine = check(calls, "door(" + kind + ", " + where + ", 0)", x.door(kind, where, 0), m.door(kind, where, 0));
        }
        for (int i = 0; fine && i < 12; i++) fine = call(1 + draw(4), x, m, calls);
        for (int i = 0; fine && i < 3; i++) fine = lay(x, m, calls) && call(36, x, m, calls) && call(17, x, m, calls) && call(8, x, m, calls);
        if (fine && run % 8 == 0) fine = call(24, x, m, calls) && call(32, x, m, calls) && call(38, x, m, calls);
        if (!fine) System.out.println("text " + run + ": " + calls);
    }

    private static boolean check(List<String> calls, String call, int got, int want) {
        calls.add(call);
        if (got == want) return true;
        wrong++;
        System.out.println(call + " answered " + got + ", the model " + want);
        return false;
    }

    private static boolean call(int which, DoorsRemember x, Model m, List<String> calls) {
        int rooms = m.rooms;
        int a, b, c, d, e;
        switch (which) {
            case 0: a = near(6); b = place(rooms); c = near(10);
                return check(calls, "door(" + a + ", " + b + ", " + c + ")", x.door(a, b, c), m.door(a, b, c));
            case 1: case 2: case 3: case 4: a = near(4); b = near(4); c = near(a == 3 ? 7 : 4);
                return check(calls, "set(" + a + ", " + b + ", " + c + ")", x.set(a, b, c), m.set(a, b, c));
            case 5: case 6: case 7: a = near(4); b = near(8);
                return check(calls, "told(" + a + ", " + b + ")", x.told(a, b), m.told(a, b));
            case 8: case 9: return check(calls, "open()", x.open(), m.open());
            case 10: a = near(9);
                long bytes = ((long) draw(1 << 30) << 34) ^ draw(1 << 30);
                return check(calls, "feed(" + a + ", " + bytes + ")", x.feed(a, bytes), m.feed(a, bytes));
            case 11: case 12: case 13: return m.texts.size() == 6 && draw(8) > 0 || speak(x, m, calls);
            case 14: return check(calls, "text()", x.text(), m.text());
            case 15: case 16: a = near(m.texts.size());
                return check(calls, "force(" + a + ")", x.force(a), m.force(a));
            case 17: return check(calls, "well()", x.well(), m.well());
            case 18: case 19: case 20: case 21: case 22: case 23: a = near(4);
                return check(calls, "go(" + a + ")", x.go(a), m.go(a));
            case 24: case 25: case 26: a = near(4);
                return check(calls, "come(" + a + ")", x.come(a), m.come(a));
            case 27: a = near(rooms);
                return check(calls, "shortest(" + a + ")", x.shortest(a), m.shortest(a));
            case 28: case 29: a = near(rooms); b = near(6);
                return check(calls, "first(" + a + ", " + b + ")", x.first(a, b), m.first(a, b));
            case 30: case 31: a = near(rooms);
                return check(calls, "shutIn(" + a + ")", x.shutIn(a), m.shutIn(a));
            case 32: return check(calls, "wished()", x.wished(), m.wished());
            case 33: return check(calls, "found()", x.found(), m.found());
            case 34: case 35: a = near(4);
                return check(calls, "judge(" + a + ")", x.judge(a), m.judge(a));
            case 36: case 37: a = near(4); b = near(2);
                return check(calls, "row(" + a + ", " + b + ")", x.row(a, b), m.row(a, b));
            case 38: a = near(4); b = near(2);
                return check(calls, "heard(" + a + ", " + b + ")", x.heard(a, b), m.heard(a, b));
            case 39: return check(calls, "oil()", x.oil(), m.oil());
            case 40: case 41: a = near(4); b = near(4);
                return check(calls, "thief(" + a + ", " + b + ")", x.thief(a, b), m.thief(a, b));
            case 42: return draw(3) > 0 || check(calls, "image()", x.image(), m.image());
            case 43: case 44: return check(calls, "back()", x.back(), m.back());
            case 45: case 46: a = near(8);
                return check(calls, "count(" + a + ")", x.count(a), m.count(a));
            case 47: a = near(4); b = near(4) - 1; c = draw(3) == 0 ? near(41) : draw(8);
                return check(calls, "sheet(" + a + ", " + b + ", " + c + ")", x.sheet(a, b, c), m.sheet(a, b, c));
            case 48: case 49: case 50: case 51: case 52: case 53: case 54: case 55:
                a = near(4); b = near(8); c = draw(8) == 0 ? draw(70000) - 30000 : near(4);
                return check(calls, "cell(" + a + ", " + b + ", " + c + ")", x.cell(a, b, c), m.cell(a, b, c));
            case 56: case 57: a = near(4); b = near(5); c = near(4); d = near(5); e = near(5);
                return check(calls, "copy(" + a + ", " + b + ", " + c + ", " + d + ", " + e + ")", x.copy(a, b, c, d, e), m.copy(a, b, c, d, e));
            case 58: a = near(4); b = near(3); c = near(4); d = near(5);
                return check(calls, "doors(" + a + ", " + b + ", " + c + ", " + d + ")", x.doors(a, b, c, d), m.doors(a, b, c, d));
            case 59: case 60: a = near(4); b = near(6);
                return check(calls, "taken(" + a + ", " + b + ")", x.taken(a, b), m.taken(a, b));
            default: return lay(x, m, calls);
        }
    }

    /** Lays a row of doors that can mostly be gone, so that judging and hearing come far. */
    private static boolean lay(DoorsRemember x, Model m, List<String> calls) {
        int sheet = draw(4), sort = draw(3), n = draw(10);
        if (!check(calls, "sheet(" + sheet + ", " + sort + ", " + n + ")", x.sheet(sheet, sort, n), m.sheet(sheet, sort, n))) return false;
        List<Integer> at = m.now();
        for (int i = 0; i < n; i++) {
            int v = draw(4);
            for (int k = 0; k < 4 && m.step(at, v) == null; k++) v = (v + 1) % 4;
            if (m.step(at, v) != null) at = m.step(at, v);
            if (draw(20) == 0) v = draw(6) - 1;
            if (!check(calls, "cell(" + sheet + ", " + i + ", " + v + ")", x.cell(sheet, i, v), m.cell(sheet, i, v))) return false;
        }
        return true;
    }

    /** Feeds a drawn text, now and then with a flaw. */
    private static boolean speak(DoorsRemember x, Model m, List<String> calls) {
        StringBuilder text = new StringBuilder();
        String shut = draw(3) == 0 ? "0" : draw(2) == 0 ? "turn*7+state*3+door+key*5-other=" + draw(30) : expression(0);
        String wish = draw(2) == 0 ? "room=" + draw(6) + " and state<" + draw(12) : expression(0);
        text.append(blank()).append("shut ").append(shut).append(blank()).append(";cost ").append(expression(0));
        text.append(";").append(blank()).append("wish ").append(wish).append(blank()).append(";").append(blank());
        for (int flaws = draw(6) - 3; flaws > 0; flaws--) {
            int at = draw(text.length());
            int die = draw(3);
            if (die == 0) text.setCharAt(at, "shut();+-*<= \n01notdrkeyandorwi$A\t".charAt(draw(34)));
            else if (die == 1) text.deleteCharAt(at);
            else text.setLength(at + 1);
        }
        if (draw(2) == 0) check(calls, "text()", x.text(), m.text());
        for (int i = 0; i < text.length(); i += 8) {
            int n = Math.min(8, text.length() - i);
            long bytes = 0;
            for (int k = n - 1; k >= 0; k--) bytes = bytes << 8 | text.charAt(i + k);
            if (!check(calls, "feed(" + n + ", " + bytes + ")", x.feed(n, bytes), m.feed(n, bytes))) return false;
        }
        return check(calls, "text() of [" + text + "]", x.text(), m.text());
    }

    private static String blank() {
        return draw(3) == 0 ? draw(2) == 0 ? " " : "\n " : "";
    }

    private static String expression(int depth) {
        int die = draw(depth > 6 ? 4 : 16);
        String[] names = {"door", "state", "turn", "room", "key", "other"};
        if (die < 2) return blank() + draw(draw(5) == 0 ? 12000 : 6);
        if (die < 4) return blank() + names[draw(6)];
        if (die < 5) return "-" + expression(depth + 1);
        if (die < 7) return "(" + expression(depth + 1) + ")";
        if (die < 9) return " not " + expression(depth + 1);
        String[] signs = {" or ", " and ", "<", "=", "+", "-", "*"};
        return expression(depth + 2) + signs[draw(7)] + expression(depth + 2);
    }

    /** An answer that ends the reading of a text: the place of its fault. */
    private static final class Fault extends Exception {
        private static final long serialVersionUID = 1L;
        final int place;

        Fault(int place) {
            this.place = place;
        }
    }

    /** A part of a text: a number or a name, or an operation on others. */
    private static final class Tree {
        final String what;
        final Tree[] parts;

        Tree(String what, Tree... parts) {
            this.what = what;
            this.parts = parts;
        }

        int worth(Map<String, Integer> names) {
            if (parts.length == 0) return names.containsKey(what) ? names.get(what) : Integer.parseInt(what);
            int left = parts[0].worth(names);
            if (parts.length == 1) return what.equals("not") ? (left == 0 ? 1 : 0) : -left;
            int right = parts[1].worth(names);
            switch (what) {
                case "or": return (left == 0 ? 0 : 1) | (right == 0 ? 0 : 1);
                case "and": return (left == 0 ? 0 : 1) & (right == 0 ? 0 : 1);
                case "<": return left < right ? 1 : 0;
                case "=": return left == right ? 1 : 0;
                case "+": return left + right;
                case "-": return left - right;
                default: return left * right;
            }
        }
    }

    private static final class Parser {
        private static final List<String> NAMES = Arrays.asList("door", "state", "turn", "room", "key", "other");
        private static final List<String> KEYS = Arrays.asList("shut", "cost", "wish", "or", "and", "not");
        private static final String[][] LEVELS = {{"or"}, {"and"}, null, {"<", "="}, {"+", "-"}, {"*"}};
        private final List<String> tokens = new ArrayList<>();
        private final List<Integer> places = new ArrayList<>();
        private int at = 0;
        private int opened = 0;

        Parser(String text) {
            java.util.regex.Matcher m = java.util.regex.Pattern.compile("[a-z]+|[0-9]+|[();+*<=-]|[^ \n]").matcher(text);
            while (m.find()) {
                String token = m.group();
                boolean word = token.matches("[a-z]+");
                boolean fine = word ? NAMES.contains(token) || KEYS.contains(token)
                    : token.matches("[0-9]{1,4}") || token.matches("[();+*<=-]");
                tokens.add(fine ? token : "?");
                places.add(m.start());
            }
            tokens.add("");
            places.add(text.length());
        }

        Tree[] whole() throws Fault {
            Tree[] parts = new Tree[3];
            for (int i = 0; i < 3; i++) {
                expect(KEYS.get(i));
                parts[i] = level(0);
                expect(";");
            }
            expect("");
            return parts;
        }

        private String ahead() {
            return tokens.get(at);
        }

        private void expect(String token) throws Fault {
            if (!ahead().equals(token)) throw new Fault(places.get(at));
            if (at < tokens.size() - 1) at++;
        }

        private void begin(String token) throws Fault {
            if (opened == 5) throw new Fault(places.get(at));
            opened++;
            expect(token);
        }

        private Tree level(int level) throws Fault {
            if (level == 6) return one();
            if (level == 2 && ahead().equals("not")) {
                begin("not");
                Tree part = level(2);
                opened--;
                return new Tree("not", part);
            }
            Tree left = level(level == 2 ? 3 : level + 1);
            while (level != 2 && Arrays.asList(LEVELS[level]).contains(ahead())) {
                String sign = ahead();
                at++;
                left = new Tree(sign, left, level(level + 1));
                if (level == 3) break;
            }
            return left;
        }

        private Tree one() throws Fault {
            String token = ahead();
            if (token.equals("-")) {
                begin("-");
                Tree part = one();
                opened--;
                return new Tree("-", part);
            }
            if (token.equals("(")) {
                begin("(");
                Tree part = level(0);
                expect(")");
                opened--;
                return part;
            }
            if (!NAMES.contains(token) && !token.matches("[0-9]+")) throw new Fault(places.get(at));
            at++;
            return new Tree(token);
        }
    }

    /** The document, said plainly: a situation is the list of states, then the turn, then the room. */
    private static final class Model {
        int rooms = 3;
        final List<int[]> doors = new ArrayList<>();
        List<Integer> states = new ArrayList<>();
        int turn = 0;
        int room = 0;
        final List<Tree[]> texts = new ArrayList<>();
        int rule = 0;
        String tape = "";
        final Object[] sheets = new Object[4];
        List<Integer> image = null;
        int imageRule = 0;

        Model() {
            tape = "shut 0 ; cost 1 + state ; wish room = 2 ;";
            text();
        }

        List<Integer> now() {
            List<Integer> all = new ArrayList<>(states);
            all.add(turn);
            all.add(room);
            return all;
        }

        private int roomOf(List<Integer> s) {
            return s.get(s.size() - 1);
        }

        private int turnOf(List<Integer> s) {
            return s.get(s.size() - 2);
        }

        private int keyOf(List<Integer> s, int door) {
            int key = doors.get(door)[3];
            return key < s.size() - 2 ? s.get(key) : 0;
        }

        private Map<String, Integer> names(List<Integer> s, int door, int from) {
            Map<String, Integer> names = new HashMap<>();
            int[] d = doors.get(door);
            names.put("door", door);
            names.put("state", s.get(door));
            names.put("turn", turnOf(s));
            names.put("room", from);
            names.put("key", keyOf(s, door));
            names.put("other", d[1] + d[2] - from);
            return names;
        }

        private boolean opens(List<Integer> s, int door, int from) {
            int kind = doors.get(door)[0];
            boolean after = keyOf(s, door) > 0;
            boolean count = turnOf(s) == doors.get(door)[4] % 4;
            boolean open = true;
            if (kind == 1) open = after;
            if (kind == 2) open = count;
            if (kind == 3) open = s.get(door) == 0;
            if (kind == 4) open = !after;
            if (kind == 5) open = count && s.get(door) < 2;
            return open && texts.get(rule)[0].worth(names(s, door, from)) == 0;
        }

        private int next(int kind, int state) {
            String[] nexts = {"1233", "1233", "1230", "3333", "1200", "1220"};
            return nexts[kind].charAt(state) - '0';
        }

        List<Integer> step(List<Integer> s, int door) {
            if (door < 0 || door >= doors.size()) return null;
            int[] d = doors.get(door);
            int from = roomOf(s);
            if (d[1] != from && d[2] != from || !opens(s, door, from)) return null;
            List<Integer> behind = new ArrayList<>(s);
            behind.set(door, next(d[0], s.get(door)));
            behind.set(s.size() - 2, (turnOf(s) + 1) % 4);
            behind.set(s.size() - 1, d[1] + d[2] - from);
            return behind;
        }

        private boolean wellIn(List<Integer> s) {
            Map<String, Integer> names = new HashMap<>();
            int all = 0;
            for (int i = 0; i < s.size() - 2; i++) all += s.get(i);
            for (String name : Parser.NAMES) names.put(name, 0);
            names.put("state", all);
            names.put("turn", turnOf(s));
            names.put("room", roomOf(s));
            return texts.get(rule)[2].worth(names) != 0;
        }

        /** Layers: the situations by how many doors they are off. */
        private List<Set<List<Integer>>> layers(List<Integer> start) {
            Set<List<Integer>> seen = new HashSet<>();
            List<Set<List<Integer>>> layers = new ArrayList<>();
            Set<List<Integer>> layer = new HashSet<>();
            layer.add(start);
            while (!layer.isEmpty()) {
                layers.add(layer);
                seen.addAll(layer);
                Set<List<Integer>> more = new HashSet<>();
                for (List<Integer> s : layer) {
                    for (int d = 0; d < doors.size(); d++) {
                        List<Integer> behind = step(s, d);
                        if (behind != null && !seen.contains(behind)) more.add(behind);
                    }
                }
                layer = more;
            }
            return layers;
        }

        private int roomsFrom(List<Integer> start) {
            int bits = 0;
            for (Set<List<Integer>> layer : layers(start)) for (List<Integer> s : layer) bits |= 1 << roomOf(s);
            return bits;
        }

        int door(int kind, int where, int number) {
            if (kind < 0 || kind > 5 || number < 0 || number > 9 || where < 0) return -2;
            if (where / 100 >= rooms || where % 100 / 10 >= rooms || where % 10 > 3) return -2;
            if (doors.size() == 4) return -4;
            doors.add(new int[] {kind, where / 100, where % 100 / 10, where % 10, number});
            states.add(0);
            return doors.size() - 1;
        }

        int set(int what, int of, int v) {
            int was;
            if (what == 0) {
                if (of < 0 || of >= doors.size() || v < 0 || v > 3) return -2;
                return states.set(of, v);
            } else if (what == 1) {
                if (v < 0 || v > 3) return -2;
                was = turn;
                turn = v;
            } else if (what == 2) {
                if (v < 0 || v >= rooms) return -2;
                was = room;
                room = v;
            } else if (what == 3) {
                if (v < 1 || v > 6 || room >= v) return -2;
                for (int[] d : doors) if (d[1] >= v || d[2] >= v) return -2;
                was = rooms;
                rooms = v;
            } else {
                return -2;
            }
            return was;
        }

        int told(int door, int what) {
            if (door < 0 || door >= doors.size() || what < 0 || what > 7) return -2;
            int[] d = doors.get(door);
            int[] told = {d[0], d[1], d[2], d[3], states.get(door), opens(now(), door, d[1]) ? 1 : 0, next(d[0], states.get(door)), d[4]};
            return told[what];
        }

        int open() {
            int bits = 0;
            for (int i = 0; i < doors.size(); i++) if (step(now(), i) != null) bits += 1 << i;
            return bits;
        }

        int feed(int n, long bytes) {
            if (n < 1 || n > 8) return -2;
            if (tape.length() + n > 160) return -4;
            for (int i = 0; i < n; i++) tape += (char) (bytes >>> (8 * i) & 255);
            return tape.length();
        }

        int text() {
            if (texts.size() == 6) return -4;
            String text = tape;
            tape = "";
            try {
                texts.add(new Parser(text).whole());
                return texts.size() - 1;
            } catch (Fault fault) {
                return -100 - fault.place;
            }
        }

        int force(int text) {
            if (text < 0 || text >= texts.size()) return -2;
            int was = rule;
            rule = text;
            return was;
        }

        int well() {
            return wellIn(now()) ? 1 : 0;
        }

        int go(int door) {
            if (door < 0 || door >= doors.size()) return -2;
            List<Integer> behind = step(now(), door);
            if (behind == null) return -3;
            states = new ArrayList<>(behind.subList(0, doors.size()));
            turn = turnOf(behind);
            room = roomOf(behind);
            return room;
        }

        int come(int what) {
            if (what < 0 || what > 3) return -2;
            List<Set<List<Integer>>> layers = layers(now());
            if (what == 0) return roomsFrom(now());
            if (what == 2) return layers.size() - 1;
            int all = 0;
            int last = 0;
            for (Set<List<Integer>> layer : layers) {
                for (List<Integer> s : layer) {
                    all++;
                    boolean out = false;
                    for (int d = 0; d < doors.size(); d++) out |= step(s, d) != null;
                    if (!out) last++;
                }
            }
            return what == 1 ? all : last;
        }

        int shortest(int told) {
            if (told < 0 || told >= rooms) return -2;
            List<Set<List<Integer>>> layers = layers(now());
            for (int i = 0; i < layers.size(); i++) for (List<Integer> s : layers.get(i)) if (roomOf(s) == told) return i;
            return -1;
        }

        /** Whether a room can be come to by just so many doors, whatever is gone through twice. */
        private boolean inJust(Set<List<Integer>> from, int steps, int told) {
            Set<List<Integer>> at = from;
            for (int i = 0; i < steps; i++) {
                Set<List<Integer>> more = new HashSet<>();
                for (List<Integer> s : at) for (int d = 0; d < doors.size(); d++) if (step(s, d) != null) more.add(step(s, d));
                at = more;
            }
            for (List<Integer> s : at) if (roomOf(s) == told) return true;
            return false;
        }

        int first(int told, int i) {
            int all = shortest(told);
            if (all == -2) return -2;
            if (i < 0 || i >= all) return -1;
            List<Integer> s = now();
            for (int k = 0; k <= i; k++) {
                for (int d = 0; d < doors.size(); d++) {
                    List<Integer> behind = step(s, d);
                    if (behind == null || !inJust(Set.of(behind), all - k - 1, told)) continue;
                    if (k == i) return d;
                    s = behind;
                    break;
                }
            }
            return -9;
        }

        int shutIn(int told) {
            if (told < 0 || told >= rooms) return -2;
            Map<List<Integer>, List<List<Integer>>> aheadOf = new HashMap<>();
            ArrayDeque<List<Integer>> open = new ArrayDeque<>();
            Set<List<Integer>> can = new HashSet<>();
            List<Set<List<Integer>>> layers = layers(now());
            for (Set<List<Integer>> layer : layers) {
                for (List<Integer> s : layer) {
                    if (roomOf(s) == told && can.add(s)) open.add(s);
                    for (int d = 0; d < doors.size(); d++) {
                        List<Integer> behind = step(s, d);
                        if (behind != null) aheadOf.computeIfAbsent(behind, k -> new ArrayList<>()).add(s);
                    }
                }
            }
            while (!open.isEmpty()) {
                for (List<Integer> s : aheadOf.getOrDefault(open.poll(), List.of())) if (can.add(s)) open.add(s);
            }
            int bits = 0;
            for (Set<List<Integer>> layer : layers) for (List<Integer> s : layer) if (!can.contains(s)) bits |= 1 << roomOf(s);
            return bits;
        }

        int wished() {
            List<Set<List<Integer>>> layers = layers(now());
            for (int i = 0; i < layers.size(); i++) for (List<Integer> s : layers.get(i)) if (wellIn(s)) return i;
            return -1;
        }

        int found() {
            List<Set<List<Integer>>> layers = layers(now());
            for (int i = 0; i < layers.size(); i++) {
                for (List<Integer> s : layers.get(i)) {
                    for (int d = 0; d < doors.size(); d++) if (now().equals(step(s, d))) return i + 1;
                }
            }
            return -1;
        }

        private int[] items(int sheet) {
            Object row = sheets[sheet];
            if (row instanceof byte[]) {
                byte[] b = (byte[]) row;
                int[] all = new int[b.length];
                for (int i = 0; i < b.length; i++) all[i] = b[i];
                return all;
            }
            if (row instanceof short[]) {
                short[] s = (short[]) row;
                int[] all = new int[s.length];
                for (int i = 0; i < s.length; i++) all[i] = s[i];
                return all;
            }
            return ((int[]) row).clone();
        }

        int judge(int sheet) {
            if (sheet < 0 || sheet > 3) return -2;
            if (sheets[sheet] == null) return -11;
            List<Integer> s = now();
            int i = 0;
            for (int door : items(sheet)) {
                s = step(s, door);
                if (s == null) return i;
                i++;
            }
            return -1;
        }

        int row(int sheet, int what) {
            if (sheet < 0 || sheet > 3 || what < 0 || what > 1) return -2;
            if (sheets[sheet] == null) return -11;
            List<Integer> s = now();
            int all = 0;
            for (int door : items(sheet)) {
                List<Integer> behind = step(s, door);
                if (behind == null) break;
                int cost = texts.get(rule)[1].worth(names(s, door, roomOf(s)));
                all += cost < 0 ? 0 : cost > 99 ? 99 : cost;
                s = behind;
            }
            return what == 0 ? all : roomOf(s);
        }

        private boolean wholeRow(List<Integer> s, int[] row) {
            for (int door : row) {
                s = step(s, door);
                if (s == null) return false;
            }
            return true;
        }

        int heard(int sheet, int what) {
            if (sheet < 0 || sheet > 3 || what < 0 || what > 1) return -2;
            if (sheets[sheet] == null) return -11;
            int[] row = items(sheet);
            int bits = 0;
            int many = 0;
            for (int r = 0; r < rooms; r++) {
                List<Integer> s = now();
                s.set(s.size() - 1, r);
                if (wholeRow(s, row)) bits += 1 << r;
                for (int t = 0; t < 4 && what == 1; t++) many += heardFrom(new ArrayList<>(), t, r, row);
            }
            return what == 0 ? bits : many;
        }

        private int heardFrom(List<Integer> some, int t, int r, int[] row) {
            int many = 0;
            if (some.size() == doors.size()) {
                List<Integer> s = new ArrayList<>(some);
                s.add(t);
                s.add(r);
                return wholeRow(s, row) ? 1 : 0;
            }
            for (int state = 0; state < 4; state++) {
                List<Integer> more = new ArrayList<>(some);
                more.add(state);
                many += heardFrom(more, t, r, row);
            }
            return many;
        }

        int oil() {
            int best = -1;
            int most = -1;
            for (int d = 0; d < doors.size(); d++) {
                int kind = doors.get(d)[0];
                doors.get(d)[0] = 0;
                int many = Integer.bitCount(roomsFrom(now()));
                doors.get(d)[0] = kind;
                if (many > most) best = d;
                most = Math.max(most, many);
            }
            return best;
        }

        int thief(int door, int state) {
            if (door < 0 || door >= doors.size() || state < 0 || state > 3) return -2;
            List<Integer> s = now();
            s.set(door, state);
            return Integer.bitCount(roomsFrom(s));
        }

        int image() {
            image = now();
            imageRule = rule;
            return room;
        }

        int back() {
            if (image == null || roomOf(image) >= rooms) return -3;
            for (int i = 0; i < image.size() - 2; i++) states.set(i, image.get(i));
            turn = turnOf(image);
            room = roomOf(image);
            rule = imageRule;
            return room;
        }

        int count(int what) {
            int all = 0;
            for (int s : states) all += s;
            int[] counts = {rooms, doors.size(), turn, room, texts.size(), tape.length(), rule, all};
            return what < 0 || what > 7 ? -2 : counts[what];
        }

        int sheet(int sheet, int sort, int n) {
            if (sheet < 0 || sheet > 3 || sort < -1 || sort > 2) return -2;
            if (sort >= 0 && n > 40) return -2;
            if (sort >= 0 && n < 0) return -14;
            sheets[sheet] = sort == 0 ? new byte[n] : sort == 1 ? new short[n] : sort == 2 ? new int[n] : null;
            return 1;
        }

        int cell(int sheet, int i, int v) {
            if (sheet < 0 || sheet > 3) return -2;
            Object row = sheets[sheet];
            if (row == null) return -11;
            if (i < 0 || i >= items(sheet).length) return -12;
            if (row instanceof byte[]) ((byte[]) row)[i] = (byte) v;
            else if (row instanceof short[]) ((short[]) row)[i] = (short) v;
            else ((int[]) row)[i] = v;
            return 1;
        }

        int copy(int sheet, int i, int other, int j, int n) {
            if (sheet < 0 || sheet > 3 || other < 0 || other > 3) return -2;
            if (sheets[sheet] == null || sheets[other] == null) return -11;
            if (sheets[sheet].getClass() != sheets[other].getClass()) return -13;
            int[] from = items(sheet);
            if (i < 0 || j < 0 || n < 0 || (long) i + n > from.length || (long) j + n > items(other).length) return -12;
            for (int k = 0; k < n; k++) cell(other, j + k, from[i + k]);
            return n;
        }

        int doors(int sheet, int sort, int from, int n) {
            if (sheet < 0 || sheet > 3 || sort < 0 || sort > 2 || n < 0 || n > 4) return -2;
            if (sheets[sheet] == null) return -11;
            Class<?>[] sorts = {byte[].class, short[].class, int[].class};
            if (sheets[sheet].getClass() != sorts[sort]) return -13;
            int[] row = items(sheet);
            int came = 0;
            for (long i = from; i < from + 3L * n; i += 3) {
                if (i < 0 || i + 3 > row.length) return -12;
                int k = (int) i;
                if (door(row[k], row[k + 1], row[k + 2]) >= 0) came++;
            }
            return came;
        }

        int taken(int door, int k) {
            if (k < 0 || k > 5) return -2;
            if (door < 0 || door >= doors.size()) return -11;
            String[] under = {"0", "10", "20", "30", "410", "520"};
            int[] d = doors.get(door);
            return under[d[0]].indexOf('0' + k) >= 0 ? d[4] : -13;
        }
    }
}
