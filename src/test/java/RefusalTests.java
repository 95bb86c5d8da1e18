import java.util.ArrayList;
import java.util.List;

/**
 * Every call with every edge of its arguments, in three houses: it never throws, answers as the model does, and if it
 * is refused, all that comes later is as if it had not been called.
 */
public final class RefusalTests extends Asking {
    private static final int LOW = Integer.MIN_VALUE, HIGH = Integer.MAX_VALUE;
    private static final int[] SMALL = {LOW, -1, 0, 1, 2, 3, 4, 5, 6, 7, 8, 9, HIGH};
    private static final int[] SHEETS = {LOW, -1, 0, 1, 2, 3, 4, HIGH};
    private static final int[] PLACES = {LOW, -1, 0, 1, 2, 5, 6, 7, HIGH};
    private static final int HOUSES = 3;

    private static int refused = 0;

    public static void main(String[] args) {
        for (int house = 0; house < HOUSES; house++) {
            long[] untouched = later(laid(house));
            for (Tried tried : calls()) hold(house, tried, untouched);
        }
        due("some were refused", refused > 1000 ? 1 : 0, 1);
        end("at the edges, " + refused + " of them refusals");
    }

    private static void hold(int house, Tried tried, long[] untouched) {
        DoorsRemember x = laid(house);
        int got = tried.on(x);
        String call = "house " + house + ": " + tried;
        due(call, got, tried.on(modelOf(house)));
        // A FAULT empties the tape, and doors that stood ahead of a place outside have come: these are no refusals.
        boolean came = tried.name.equals("doors") && got == OUTSIDE;
        if (got >= NONE || got <= -100 || came) return;
        refused++;
        long[] answers = later(x);
        for (int i = 0; i < answers.length; i++) due(call + ", and then answer " + i, answers[i], untouched[i]);
    }

    // ---- the calls

    /** A call by its name and arguments. */
    private static final class Tried {
        final String name;
        final int[] a;

        Tried(String name, int... a) {
            this.name = name;
            this.a = a;
        }

        int on(DoorsRemember x) {
            switch (name) {
                case "door": return x.door(a[0], a[1], a[2]);
                case "set": return x.set(a[0], a[1], a[2]);
                case "told": return x.told(a[0], a[1]);
                case "feed": return x.feed(a[0], a[1]);
                case "text": return x.text();
                case "force": return x.force(a[0]);
                case "go": return x.go(a[0]);
                case "come": return x.come(a[0]);
                case "shortest": return x.shortest(a[0]);
                case "first": return x.first(a[0], a[1]);
                case "shutIn": return x.shutIn(a[0]);
                case "judge": return x.judge(a[0]);
                case "row": return x.row(a[0], a[1]);
                case "heard": return x.heard(a[0], a[1]);
                case "thief": return x.thief(a[0], a[1]);
                case "image": return x.image();
                case "back": return x.back();
                case "count": return x.count(a[0]);
                case "sheet": return x.sheet(a[0], a[1], a[2]);
                case "cell": return x.cell(a[0], a[1], a[2]);
                case "copy": return x.copy(a[0], a[1], a[2], a[3], a[4]);
                case "doors": return x.doors(a[0], a[1], a[2], a[3]);
                case "taken": return x.taken(a[0], a[1]);
                default: throw new IllegalStateException(name);
            }
        }

        int on(Model m) {
            switch (name) {
                case "door": return m.door(a[0], a[1], a[2]);
                case "set": return m.set(a[0], a[1], a[2]);
                case "told": return m.told(a[0], a[1]);
                case "feed": return m.feed(a[0], a[1]);
                case "text": return m.text();
                case "force": return m.force(a[0]);
                case "go": return m.go(a[0]);
                case "come": return m.come(a[0]);
                case "shortest": return m.shortest(a[0]);
                case "first": return m.first(a[0], a[1]);
                case "shutIn": return m.shutIn(a[0]);
                case "judge": return m.judge(a[0]);
                case "row": return m.row(a[0], a[1]);
                case "heard": return m.heard(a[0], a[1]);
                case "thief": return m.thief(a[0], a[1]);
                case "image": return m.image();
                case "back": return m.back();
                case "count": return m.count(a[0]);
                case "sheet": return m.sheet(a[0], a[1], a[2]);
                case "cell": return m.cell(a[0], a[1], a[2]);
                case "copy": return m.copy(a[0], a[1], a[2], a[3], a[4]);
                case "doors": return m.doors(a[0], a[1], a[2], a[3]);
                case "taken": return m.taken(a[0], a[1]);
                default: throw new IllegalStateException(name);
            }
        }

        @Override
        public String toString() {
            StringBuilder all = new StringBuilder(name).append("(");
            for (int i = 0; i < a.length; i++) all.append(i == 0 ? "" : ", ").append(a[i]);
            return all.append(")").toString();
        }
    }

    private static List<Tried> calls() {
        List<Tried> calls = new ArrayList<>();
        for (String name : new String[] {"text", "back"}) calls.add(new Tried(name));
        for (String name : new String[] {"force", "go", "come", "shortest", "shutIn", "judge", "count"}) {
            for (int a : SMALL) calls.add(new Tried(name, a));
        }
        for (String name : new String[] {"told", "feed", "first", "row", "heard", "thief", "taken"}) {
            for (int a : SMALL) for (int b : SMALL) calls.add(new Tried(name, a, b));
        }
        for (int a : SMALL) for (int b : SMALL) for (int c : SMALL) calls.add(new Tried("set", a, b, c));
        int[] kinds = {LOW, -1, 0, 5, 6, HIGH};
        int[] wheres = {LOW, -100, -1, 0, 3, 4, 20, 30, 50, 60, 200, 222, 300, 553, 600, 1000, 10000, HIGH};
        for (int a : kinds) for (int b : wheres) for (int c : new int[] {LOW, -1, 0, 9, 10, HIGH}) calls.add(new Tried("door", a, b, c));
        int[] sizes = {LOW, -1, 0, 1, 40, 41, HIGH};
        for (int a : SHEETS) for (int b : new int[] {LOW, -2, -1, 0, 1, 2, 3, HIGH}) for (int c : sizes) calls.add(new Tried("sheet", a, b, c));
        for (int a : SHEETS) for (int b : PLACES) for (int c : new int[] {LOW, -1, 0, 256, HIGH}) calls.add(new Tried("cell", a, b, c));
        for (int a : SHEETS) for (int b : SHEETS) for (int c : PLACES) for (int d : SHEETS) calls.add(new Tried("doors", a, b, c, d));
        for (int a : new int[] {-1, 0, 1, 2, 3, 4}) {
            for (int b : PLACES) {
                for (int c : new int[] {-1, 0, 1, 2, 4}) {
                    for (int d : PLACES) for (int e : PLACES) calls.add(new Tried("copy", a, b, c, d, e));
                }
            }
        }
        return calls;
    }

    // ---- the houses

    /** House 0 is new; house 1 has some of all; house 2 is full. */
    private static DoorsRemember laid(int house) {
        DoorsRemember x = new DoorsRemember();
        for (Tried call : laying(house)) call.on(x);
        return x;
    }

    private static Model modelOf(int house) {
        Model m = new Model();
        for (Tried call : laying(house)) call.on(m);
        return m;
    }

    private static List<Tried> laying(int house) {
        List<Tried> calls = new ArrayList<>();
        if (house == 0) return calls;
        if (house == 2) calls.add(new Tried("set", 3, 0, 6));
        int[][] doors = {{3, 10, 0}, {4, 121, 5}, {5, 202, 9}, {2, 500, 2}};
        for (int i = 0; i < (house == 1 ? 2 : 4); i++) calls.add(new Tried("door", doors[i]));
        for (int i = 1; i < (house == 1 ? 2 : 6); i++) feed(calls, "shut state=3;cost door*9+turn;wish room=" + i + ";");
        calls.add(new Tried("force", 1));
        for (int sheet = 0; sheet < 3; sheet++) {
            calls.add(new Tried("sheet", sheet, house == 1 ? 0 : sheet, 6));
            for (int i = 0; i < 6; i++) calls.add(new Tried("cell", sheet, i, i * (sheet + 2) % 5 % 3));
        }
        calls.add(new Tried("set", 2, 0, house));
        calls.add(new Tried("image"));
        calls.add(new Tried("set", 0, 1, 1));
        calls.add(new Tried("set", 1, 0, 3));
        calls.add(new Tried("set", 2, 0, 0));
        calls.add(new Tried("feed", 4, 0x74756873));
        for (int i = 0; house == 2 && i < 39; i++) calls.add(new Tried("feed", 4, 0x20202020));
        return calls;
    }

    private static void feed(List<Tried> calls, String text) {
        for (int i = 0; i < text.length(); i += 4) {
            int n = Math.min(4, text.length() - i);
            calls.add(new Tried("feed", n, (int) bytesOf(text, i, n)));
        }
        calls.add(new Tried("text"));
    }

    // ---- what comes later

    /** Calls that bring all to light that an object keeps: what they answer. */
    private static long[] later(DoorsRemember x) {
        List<Long> answers = new ArrayList<>();
        for (int i = 0; i < 8; i++) answers.add((long) x.count(i));
        for (int door = 0; door < 4; door++) for (int i = 0; i < 8; i++) answers.add((long) x.told(door, i));
        answers.add((long) x.open() << 16 | x.well());
        for (int i = 0; i < 4; i++) answers.add((long) x.come(i));
        for (int room = 0; room < 6; room++) answers.add((long) x.first(room, 0) << 32 | x.shutIn(room) & 0xFFFFL);
        answers.add((long) x.wished() << 32 | x.found() & 0xFFFFL);
        answers.add((long) x.oil());
        for (int sheet = 0; sheet < 4; sheet++) sheetLater(x, sheet, answers);
        answers.add((long) x.feed(1, ';'));
        answers.add((long) x.text());
        for (int text = 0; text < 6; text++) answers.add((long) x.force(text) << 32 | x.well() & 0xFFFFL);
        answers.add((long) x.back());
        for (int i = 0; i < 8; i++) answers.add((long) x.count(i));
        for (int i = 0; i < 4; i++) answers.add((long) x.door(i, 0, i));
        long[] all = new long[answers.size()];
        for (int i = 0; i < all.length; i++) all[i] = answers.get(i);
        return all;
    }

    private static void sheetLater(DoorsRemember x, int sheet, List<Long> answers) {
        answers.add((long) x.judge(sheet));
        answers.add((long) x.row(sheet, 0) << 32 | x.row(sheet, 1) & 0xFFFFL);
        answers.add((long) x.heard(sheet, 0) << 32 | x.heard(sheet, 1) & 0xFFFFL);
        for (int sort = 0; sort < 3; sort++) answers.add((long) x.doors(sheet, sort, 0, 0));
        int[] ends = {0, 1, 6, 7, 40};
        for (int end : ends) answers.add((long) x.copy(sheet, end, sheet, end, 0));
        // Each item by itself: how far a row of it alone goes, and what it costs.
        for (int i = 0; i < 6; i++) {
            answers.add((long) x.copy(sheet, i, sheet, 0, 1));
            answers.add((long) x.judge(sheet) << 32 | x.row(sheet, 0) & 0xFFFFL);
        }
    }
}
