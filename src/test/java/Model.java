import java.util.ArrayDeque;
import java.util.ArrayList;
import java.util.Arrays;
import java.util.HashMap;
import java.util.HashSet;
import java.util.List;
import java.util.Map;
import java.util.Set;

/** The document, said plainly: a situation is the list of states, then the turn, then the room. */
final class Model {
    int rooms = 3;
    final List<int[]> doors = new ArrayList<>();
    List<Integer> states = new ArrayList<>();
    int turn = 0;
    int room = 0;
    final List<Tree[]> texts = new ArrayList<>();
    int rule = 0;
    String tape = "";
    final Object[] sheets = new Object[4];
    List<Integer> image = null;
    int imageRule = 0;

    Model() {
        tape = "shut 0 ; cost 1 + state ; wish room = 2 ;";
        text();
    }

    List<Integer> now() {
        List<Integer> all = new ArrayList<>(states);
        all.add(turn);
        all.add(room);
        return all;
    }

    private int roomOf(List<Integer> s) {
        return s.get(s.size() - 1);
    }

    private int turnOf(List<Integer> s) {
        return s.get(s.size() - 2);
    }

    private int keyOf(List<Integer> s, int door) {
        int key = doors.get(door)[3];
        return key < s.size() - 2 ? s.get(key) : 0;
    }

    private Map<String, Integer> names(List<Integer> s, int door, int from) {
        Map<String, Integer> names = new HashMap<>();
        int[] d = doors.get(door);
        names.put("door", door);
        names.put("state", s.get(door));
        names.put("turn", turnOf(s));
        names.put("room", from);
        names.put("key", keyOf(s, door));
        names.put("other", d[1] + d[2] - from);
        return names;
    }

    private boolean opens(List<Integer> s, int door, int from) {
        int kind = doors.get(door)[0];
        boolean after = keyOf(s, door) > 0;
        boolean count = turnOf(s) == doors.get(door)[4] % 4;
        boolean open = true;
        if (kind == 1) open = after;
        if (kind == 2) open = count;
        if (kind == 3) open = s.get(door) == 0;
        if (kind == 4) open = !after;
        if (kind == 5) open = count && s.get(door) < 2;
        return open && texts.get(rule)[0].worth(names(s, door, from)) == 0;
    }

    private int next(int kind, int state) {
        String[] nexts = {"1233", "1233", "1230", "3333", "1200", "1220"};
        return nexts[kind].charAt(state) - '0';
    }

    List<Integer> step(List<Integer> s, int door) {
        if (door < 0 || door >= doors.size()) return null;
        int[] d = doors.get(door);
        int from = roomOf(s);
        if (d[1] != from && d[2] != from || !opens(s, door, from)) return null;
        List<Integer> behind = new ArrayList<>(s);
        behind.set(door, next(d[0], s.get(door)));
        behind.set(s.size() - 2, (turnOf(s) + 1) % 4);
        behind.set(s.size() - 1, d[1] + d[2] - from);
        return behind;
    }

    private boolean wellIn(List<Integer> s) {
        Map<String, Integer> names = new HashMap<>();
        int all = 0;
        for (int i = 0; i < s.size() - 2; i++) all += s.get(i);
        for (String name : Parser.NAMES) names.put(name, 0);
        names.put("state", all);
        names.put("turn", turnOf(s));
        names.put("room", roomOf(s));
        return texts.get(rule)[2].worth(names) != 0;
    }

    /** Layers: the situations by how many doors they are off. */
    private List<Set<List<Integer>>> layers(List<Integer> start) {
        Set<List<Integer>> seen = new HashSet<>();
        List<Set<List<Integer>>> layers = new ArrayList<>();
        Set<List<Integer>> layer = new HashSet<>();
        layer.add(start);
        while (!layer.isEmpty()) {
            layers.add(layer);
            seen.addAll(layer);
            Set<List<Integer>> more = new HashSet<>();
            for (List<Integer> s : layer) {
                for (int d = 0; d < doors.size(); d++) {
                    List<Integer> behind = step(s, d);
                    if (behind != null && !seen.contains(behind)) more.add(behind);
                }
            }
            layer = more;
        }
        return layers;
    }

    private int roomsFrom(List<Integer> start) {
        int bits = 0;
        for (Set<List<Integer>> layer : layers(start)) for (List<Integer> s : layer) bits |= 1 << roomOf(s);
        return bits;
    }

    int door(int kind, int where, int number) {
        if (kind < 0 || kind > 5 || number < 0 || number > 9 || where < 0) return -2;
        if (where / 100 >= rooms || where % 100 / 10 >= rooms || where % 10 > 3) return -2;
        if (doors.size() == 4) return -4;
        doors.add(new int[] {kind, where / 100, where % 100 / 10, where % 10, number});
        states.add(0);
        return doors.size() - 1;
    }

    int set(int what, int of, int v) {
        int was;
        if (what == 0) {
            if (of < 0 || of >= doors.size() || v < 0 || v > 3) return -2;
            return states.set(of, v);
        } else if (what == 1) {
            if (v < 0 || v > 3) return -2;
            was = turn;
            turn = v;
        } else if (what == 2) {
            if (v < 0 || v >= rooms) return -2;
            was = room;
            room = v;
        } else if (what == 3) {
            if (v < 1 || v > 6 || room >= v) return -2;
            for (int[] d : doors) if (d[1] >= v || d[2] >= v) return -2;
            was = rooms;
            rooms = v;
        } else {
            return -2;
        }
        return was;
    }

    int told(int door, int what) {
        if (door < 0 || door >= doors.size() || what < 0 || what > 7) return -2;
        int[] d = doors.get(door);
        int[] told = {d[0], d[1], d[2], d[3], states.get(door), opens(now(), door, d[1]) ? 1 : 0, next(d[0], states.get(door)), d[4]};
        return told[what];
    }

    int open() {
        int bits = 0;
        for (int i = 0; i < doors.size(); i++) if (step(now(), i) != null) bits += 1 << i;
        return bits;
    }

    int feed(int n, long bytes) {
        if (n < 1 || n > 8) return -2;
        if (tape.length() + n > 160) return -4;
        for (int i = 0; i < n; i++) tape += (char) (bytes >>> (8 * i) & 255);
        return tape.length();
    }

    int text() {
        if (texts.size() == 6) return -4;
        String text = tape;
        tape = "";
        try {
            texts.add(new Parser(text).whole());
            return texts.size() - 1;
        } catch (Fault fault) {
            return -100 - fault.place;
        }
    }

    int force(int text) {
        if (text < 0 || text >= texts.size()) return -2;
        int was = rule;
        rule = text;
        return was;
    }

    int well() {
        return wellIn(now()) ? 1 : 0;
    }

    int go(int door) {
        if (door < 0 || door >= doors.size()) return -2;
        List<Integer> behind = step(now(), door);
        if (behind == null) return -3;
        states = new ArrayList<>(behind.subList(0, doors.size()));
        turn = turnOf(behind);
        room = roomOf(behind);
        return room;
    }

    int come(int what) {
        if (what < 0 || what > 3) return -2;
        List<Set<List<Integer>>> layers = layers(now());
        if (what == 0) return roomsFrom(now());
        if (what == 2) return layers.size() - 1;
        int all = 0;
        int last = 0;
        for (Set<List<Integer>> layer : layers) {
            for (List<Integer> s : layer) {
                all++;
                boolean out = false;
                for (int d = 0; d < doors.size(); d++) out |= step(s, d) != null;
                if (!out) last++;
            }
        }
        return what == 1 ? all : last;
    }

    int shortest(int told) {
        if (told < 0 || told >= rooms) return -2;
        List<Set<List<Integer>>> layers = layers(now());
        for (int i = 0; i < layers.size(); i++) for (List<Integer> s : layers.get(i)) if (roomOf(s) == told) return i;
        return -1;
    }

    /** Whether a room can be come to by just so many doors, whatever is gone through twice. */
    private boolean inJust(Set<List<Integer>> from, int steps, int told) {
        Set<List<Integer>> at = from;
        for (int i = 0; i < steps; i++) {
            Set<List<Integer>> more = new HashSet<>();
            for (List<Integer> s : at) for (int d = 0; d < doors.size(); d++) if (step(s, d) != null) more.add(step(s, d));
            at = more;
        }
        for (List<Integer> s : at) if (roomOf(s) == told) return true;
        return false;
    }

    int first(int told, int i) {
        int all = shortest(told);
        if (all == -2) return -2;
        if (i < 0 || i >= all) return -1;
        List<Integer> s = now();
        for (int k = 0; k <= i; k++) {
            for (int d = 0; d < doors.size(); d++) {
                List<Integer> behind = step(s, d);
                if (behind == null || !inJust(Set.of(behind), all - k - 1, told)) continue;
                if (k == i) return d;
                s = behind;
                break;
            }
        }
        return -9;
    }

    int shutIn(int told) {
        if (told < 0 || told >= rooms) return -2;
        Map<List<Integer>, List<List<Integer>>> aheadOf = new HashMap<>();
        ArrayDeque<List<Integer>> open = new ArrayDeque<>();
        Set<List<Integer>> can = new HashSet<>();
        List<Set<List<Integer>>> layers = layers(now());
        for (Set<List<Integer>> layer : layers) {
            for (List<Integer> s : layer) {
                if (roomOf(s) == told && can.add(s)) open.add(s);
                for (int d = 0; d < doors.size(); d++) {
                    List<Integer> behind = step(s, d);
                    if (behind != null) aheadOf.computeIfAbsent(behind, k -> new ArrayList<>()).add(s);
                }
            }
        }
        while (!open.isEmpty()) {
            for (List<Integer> s : aheadOf.getOrDefault(open.poll(), List.of())) if (can.add(s)) open.add(s);
        }
        int bits = 0;
        for (Set<List<Integer>> layer : layers) for (List<Integer> s : layer) if (!can.contains(s)) bits |= 1 << roomOf(s);
        return bits;
    }

    int wished() {
        List<Set<List<Integer>>> layers = layers(now());
        for (int i = 0; i < layers.size(); i++) for (List<Integer> s : layers.get(i)) if (wellIn(s)) return i;
        return -1;
    }

    int found() {
        List<Set<List<Integer>>> layers = layers(now());
        for (int i = 0; i < layers.size(); i++) {
            for (List<Integer> s : layers.get(i)) {
                for (int d = 0; d < doors.size(); d++) if (now().equals(step(s, d))) return i + 1;
            }
        }
        return -1;
    }

    private int[] items(int sheet) {
        Object row = sheets[sheet];
        if (row instanceof byte[]) {
            byte[] b = (byte[]) row;
            int[] all = new int[b.length];
            for (int i = 0; i < b.length; i++) all[i] = b[i];
            return all;
        }
        if (row instanceof short[]) {
            short[] s = (short[]) row;
            int[] all = new int[s.length];
            for (int i = 0; i < s.length; i++) all[i] = s[i];
            return all;
        }
        return ((int[]) row).clone();
    }

    int judge(int sheet) {
        if (sheet < 0 || sheet > 3) return -2;
        if (sheets[sheet] == null) return -11;
        List<Integer> s = now();
        int i = 0;
        for (int door : items(sheet)) {
            s = step(s, door);
            if (s == null) return i;
            i++;
        }
        return -1;
    }

    int row(int sheet, int what) {
        if (sheet < 0 || sheet > 3 || what < 0 || what > 1) return -2;
        if (sheets[sheet] == null) return -11;
        List<Integer> s = now();
        int all = 0;
        for (int door : items(sheet)) {
            List<Integer> behind = step(s, door);
            if (behind == null) break;
            int cost = texts.get(rule)[1].worth(names(s, door, roomOf(s)));
            all += cost < 0 ? 0 : cost > 99 ? 99 : cost;
            s = behind;
        }
        return what == 0 ? all : roomOf(s);
    }

    private boolean wholeRow(List<Integer> s, int[] row) {
        for (int door : row) {
            s = step(s, door);
            if (s == null) return false;
        }
        return true;
    }

    int heard(int sheet, int what) {
        if (sheet < 0 || sheet > 3 || what < 0 || what > 1) return -2;
        if (sheets[sheet] == null) return -11;
        int[] row = items(sheet);
        int bits = 0;
        int many = 0;
        for (int r = 0; r < rooms; r++) {
            List<Integer> s = now();
            s.set(s.size() - 1, r);
            if (wholeRow(s, row)) bits += 1 << r;
            for (int t = 0; t < 4 && what == 1; t++) many += heardFrom(new ArrayList<>(), t, r, row);
        }
        return what == 0 ? bits : many;
    }

    private int heardFrom(List<Integer> some, int t, int r, int[] row) {
        int many = 0;
        if (some.size() == doors.size()) {
            List<Integer> s = new ArrayList<>(some);
            s.add(t);
            s.add(r);
            return wholeRow(s, row) ? 1 : 0;
        }
        for (int state = 0; state < 4; state++) {
            List<Integer> more = new ArrayList<>(some);
            more.add(state);
            many += heardFrom(more, t, r, row);
        }
        return many;
    }

    int oil() {
        int best = -1;
        int most = -1;
        for (int d = 0; d < doors.size(); d++) {
            int kind = doors.get(d)[0];
            doors.get(d)[0] = 0;
            int many = Integer.bitCount(roomsFrom(now()));
            doors.get(d)[0] = kind;
            if (many > most) best = d;
            most = Math.max(most, many);
        }
        return best;
    }

    int thief(int door, int state) {
        if (door < 0 || door >= doors.size() || state < 0 || state > 3) return -2;
        List<Integer> s = now();
        s.set(door, state);
        return Integer.bitCount(roomsFrom(s));
    }

    int image() {
        image = now();
        imageRule = rule;
        return room;
    }

    int back() {
        if (image == null || roomOf(image) >= rooms) return -3;
        for (int i = 0; i < image.size() - 2; i++) states.set(i, image.get(i));
        turn = turnOf(image);
        room = roomOf(image);
        rule = imageRule;
        return room;
    }

    int count(int what) {
        int all = 0;
        for (int s : states) all += s;
        int[] counts = {rooms, doors.size(), turn, room, texts.size(), tape.length(), rule, all};
        return what < 0 || what > 7 ? -2 : counts[what];
    }

    int sheet(int sheet, int sort, int n) {
        if (sheet < 0 || sheet > 3 || sort < -1 || sort > 2) return -2;
        if (sort >= 0 && n > 40) return -2;
        if (sort >= 0 && n < 0) return -14;
        sheets[sheet] = sort == 0 ? new byte[n] : sort == 1 ? new short[n] : sort == 2 ? new int[n] : null;
        return 1;
    }

    int cell(int sheet, int i, int v) {
        if (sheet < 0 || sheet > 3) return -2;
        Object row = sheets[sheet];
        if (row == null) return -11;
        if (i < 0 || i >= items(sheet).length) return -12;
        if (row instanceof byte[]) ((byte[]) row)[i] = (byte) v;
        else if (row instanceof short[]) ((short[]) row)[i] = (short) v;
        else ((int[]) row)[i] = v;
        return 1;
    }

    int copy(int sheet, int i, int other, int j, int n) {
        if (sheet < 0 || sheet > 3 || other < 0 || other > 3) return -2;
        if (sheets[sheet] == null || sheets[other] == null) return -11;
        if (sheets[sheet].getClass() != sheets[other].getClass()) return -13;
        int[] from = items(sheet);
        if (i < 0 || j < 0 || n < 0 || (long) i + n > from.length || (long) j + n > items(other).length) return -12;
        for (int k = 0; k < n; k++) cell(other, j + k, from[i + k]);
        return n;
    }

    int doors(int sheet, int sort, int from, int n) {
        if (sheet < 0 || sheet > 3 || sort < 0 || sort > 2 || n < 0 || n > 4) return -2;
        if (sheets[sheet] == null) return -11;
        Class<?>[] sorts = {byte[].class, short[].class, int[].class};
        if (sheets[sheet].getClass() != sorts[sort]) return -13;
        int[] row = items(sheet);
        int came = 0;
        for (long i = from; i < from + 3L * n; i += 3) {
            if (i < 0 || i + 3 > row.length) return -12;
            int k = (int) i;
            if (door(row[k], row[k + 1], row[k + 2]) >= 0) came++;
        }
        return came;
    }

    int taken(int door, int k) {
        if (k < 0 || k > 5) return -2;
        if (door < 0 || door >= doors.size()) return -11;
        String[] under = {"0", "10", "20", "30", "410", "520"};
        int[] d = doors.get(door);
        return under[d[0]].indexOf('0' + k) >= 0 ? d[4] : -13;
    }

    /** An answer that ends the reading of a text: the place of its fault. */
    private static final class Fault extends Exception {
        private static final long serialVersionUID = 1L;
        final int place;

        Fault(int place) {
            this.place = place;
        }
    }

    /** A part of a text: a number or a name, or an operation on others. */
    private static final class Tree {
        final String what;
        final Tree[] parts;

        Tree(String what, Tree... parts) {
            this.what = what;
            this.parts = parts;
        }

        int worth(Map<String, Integer> names) {
            if (parts.length == 0) return names.containsKey(what) ? names.get(what) : Integer.parseInt(what);
            int left = parts[0].worth(names);
            if (parts.length == 1) return what.equals("not") ? (left == 0 ? 1 : 0) : -left;
            int right = parts[1].worth(names);
            switch (what) {
                case "or": return (left == 0 ? 0 : 1) | (right == 0 ? 0 : 1);
                case "and": return (left == 0 ? 0 : 1) & (right == 0 ? 0 : 1);
                case "<": return left < right ? 1 : 0;
                case "=": return left == right ? 1 : 0;
                case "+": return left + right;
                case "-": return left - right;
                default: return left * right;
            }
        }
    }

    private static final class Parser {
        private static final List<String> NAMES = Arrays.asList("door", "state", "turn", "room", "key", "other");
        private static final List<String> KEYS = Arrays.asList("shut", "cost", "wish", "or", "and", "not");
        private static final String[][] LEVELS = {{"or"}, {"and"}, null, {"<", "="}, {"+", "-"}, {"*"}};
        private final List<String> tokens = new ArrayList<>();
        private final List<Integer> places = new ArrayList<>();
        private int at = 0;
        private int opened = 0;

        Parser(String text) {
            java.util.regex.Matcher m = java.util.regex.Pattern.compile("[a-z]+|[0-9]+|[();+*<=-]|[^ \n]").matcher(text);
            while (m.find()) {
                String token = m.group();
                boolean word = token.matches("[a-z]+");
                boolean fine = word ? NAMES.contains(token) || KEYS.contains(token)
                    : token.matches("[0-9]{1,4}") || token.matches("[();+*<=-]");
                tokens.add(fine ? token : "?");
                places.add(m.start());
            }
            tokens.add("");
            places.add(text.length());
        }

        Tree[] whole() throws Fault {
            Tree[] parts = new Tree[3];
            for (int i = 0; i < 3; i++) {
                expect(KEYS.get(i));
                parts[i] = level(0);
                expect(";");
            }
            expect("");
            return parts;
        }

        private String ahead() {
            return tokens.get(at);
        }

        private void expect(String token) throws Fault {
            if (!ahead().equals(token)) throw new Fault(places.get(at));
            if (at < tokens.size() - 1) at++;
        }

        private void begin(String token) throws Fault {
            if (opened == 5) throw new Fault(places.get(at));
            opened++;
            expect(token);
        }

        private Tree level(int level) throws Fault {
            if (level == 6) return one();
            if (level == 2 && ahead().equals("not")) {
                begin("not");
                Tree part = level(2);
                opened--;
                return new Tree("not", part);
            }
            Tree left = level(level == 2 ? 3 : level + 1);
            while (level != 2 && Arrays.asList(LEVELS[level]).contains(ahead())) {
                String sign = ahead();
                at++;
                left = new Tree(sign, left, level(level + 1));
                if (level == 3) break;
            }
            return left;
        }

        private Tree one() throws Fault {
            String token = ahead();
            if (token.equals("-")) {
                begin("-");
                Tree part = one();
                opened--;
                return new Tree("-", part);
            }
            if (token.equals("(")) {
                begin("(");
                Tree part = level(0);
                expect(")");
                opened--;
                return part;
            }
            if (!NAMES.contains(token) && !token.matches("[0-9]+")) throw new Fault(places.get(at));
            at++;
            return new Tree(token);
        }
    }
}
