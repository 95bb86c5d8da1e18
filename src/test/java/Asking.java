/** What the tests share: how an answer is held against the one that is due, and how a house is laid out. */
abstract class Asking {
    static final int DOOR = 0, AFTER = 1, COUNT = 2, ONCE = 3, NEVER = 4, LATE = 5;
    static final int NONE = -1, BAD = -2, STATE = -3, FULL = -4;
    static final int MISSING = -11, OUTSIDE = -12, OTHER_SORT = -13, BELOW_ZERO = -14;
    static final String FIRST_RULE = "shut 0 ; cost 1 + state ; wish room = 2 ;";

    static int wrong = 0;
    static int asked = 0;

    static void due(String call, long got, long want) {
        asked++;
        if (got == want) return;
        wrong++;
        System.out.println(call + " answered " + got + ", due is " + want);
    }

    /** Says how it went; a test that asked nothing, or was answered wrongly, ends with exit code 1. */
    static void end(String what) {
        System.out.println(asked + " answers " + what + ", " + wrong + " not as due");
        if (wrong != 0 || asked == 0) System.exit(1);
    }

    /** The n bytes of a text from a place on, as feed() takes them: the lowest first. */
    static long bytesOf(String text, int from, int n) {
        long bytes = 0;
        for (int k = n - 1; k >= 0; k--) bytes = bytes << 8 | text.charAt(from + k) & 255;
        return bytes;
    }

    /** Feeds a text in pieces of up to eight bytes. */
    static void say(DoorsRemember x, String text) {
        for (int i = 0; i < text.length(); i += 8) {
            int n = Math.min(8, text.length() - i);
            x.feed(n, bytesOf(text, i, n));
        }
    }

    static int read(String text) {
        DoorsRemember x = new DoorsRemember();
        say(x, text);
        return x.text();
    }

    /** A house under a rule of its own. */
    static DoorsRemember under(String rule) {
        DoorsRemember x = new DoorsRemember();
        say(x, rule);
        due("text() of " + rule, x.text(), 1);
        x.force(1);
        return x;
    }

    static DoorsRemember withDoors(int rooms, int... doors) {
        DoorsRemember x = new DoorsRemember();
        x.set(3, 0, rooms);
        for (int i = 0; i + 2 < doors.length; i += 3) x.door(doors[i], doors[i + 1], doors[i + 2]);
        return x;
    }

    static void row(DoorsRemember x, int sheet, int sort, int... items) {
        x.sheet(sheet, sort, items.length);
        for (int i = 0; i < items.length; i++) x.cell(sheet, i, items[i]);
    }

    /** What an expression says, read off the cost of one door: costs are 0 to 99, so negative ones are told by 0. */
    static int worth(String expression) {
        DoorsRemember x = new DoorsRemember();
        say(x, "shut 0;cost " + expression + ";wish 0;");
        due("text() of " + expression, x.text(), 1);
        x.force(1);
        x.set(3, 0, 6);
        x.door(DOOR, 0, 0);
        x.door(DOOR, 0, 0);
        x.door(DOOR, 350, 7);
        x.set(0, 0, 3);
        x.set(0, 2, 1);
        x.set(1, 0, 2);
        x.set(2, 0, 5);
        row(x, 0, 0, 2);
        return x.row(0, 0);
    }
}
