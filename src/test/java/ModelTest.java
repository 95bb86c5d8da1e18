import java.util.ArrayList;
import java.util.List;

/**
 * Long mixed runs of calls, each answered by the class and by a model that is written another way: situations are
 * lists, texts are trees, every search walks anew. The runs are drawn by a fixed rule, so they are always the same.
 */
public final class ModelTest {
    private static final int RUNS = 300, CALLS = 500, TEXTS = 6000;
    private static int wrong = 0;
    private static long drawn = 20261118L;

    public static void main(String[] args) {
        for (int run = 0; run < RUNS && wrong < 10; run++) play(run);
        for (int i = 0; i < TEXTS && wrong < 10; i++) playText(i);
        System.out.println(RUNS + " runs of " + CALLS + " calls, " + TEXTS + " texts, " + wrong + " not as the model's");
        if (wrong != 0) System.exit(1);
    }

    private static int draw(int n) {
        drawn = drawn * 6364136223846793005L + 1442695040888963407L;
        return (int) ((drawn >>> 33) % n);
    }

    /** Mostly 0 .. n - 1, sometimes beside it, rarely far off. */
    private static int near(int n) {
        int die = draw(40);
        if (die == 0) return -1 - draw(3);
        if (die == 1) return n + draw(3);
        if (die == 2) return draw(2) == 0 ? Integer.MAX_VALUE - draw(3) : Integer.MIN_VALUE + draw(3);
        return draw(n);
    }

    private static int place(int rooms) {
        return near(rooms) * 100 + draw(rooms) * 10 + draw(4);
    }

    private static void play(int run) {
        DoorsRemember x = new DoorsRemember();
        Model m = new Model();
        List<String> calls = new ArrayList<>();
        if (draw(3) > 0) {
            int rooms = 2 + draw(5);
            check(calls, "set(3, 0, " + rooms + ")", x.set(3, 0, rooms), m.set(3, 0, rooms));
            for (int i = draw(5); i > 0; i--) {
                int kind = run % 2 == 0 ? draw(6) : "0024".charAt(draw(4)) - '0', number = draw(10);
                int where = draw(rooms) * 100 + draw(rooms) * 10 + draw(4);
                check(calls, "door(" + kind + ", " + where + ", " + number + ")", x.door(kind, where, number), m.door(kind, where, number));
            }
        }
        for (int i = calls.size(); i < CALLS; i++) {
            if (!call(draw(64), x, m, calls)) {
                System.out.println("run " + run + ": " + calls);
                return;
            }
        }
    }

    /** One text, and what it says of a few doors. */
    private static void playText(int run) {
        DoorsRemember x = new DoorsRemember();
        Model m = new Model();
        List<String> calls = new ArrayList<>();
        boolean fine = speak(x, m, calls);
        if (fine) fine = check(calls, "force(1)", x.force(1), m.force(1));
        for (int i = 0; fine && i < 3; i++) {
            int kind = draw(6), where = draw(3) * 100 + draw(3) * 10 + draw(4);
            fine = check(calls, "door(" + kind + ", " + where + ", 0)", x.door(kind, where, 0), m.door(kind, where, 0));
        }
        for (int i = 0; fine && i < 12; i++) fine = call(1 + draw(4), x, m, calls);
        for (int i = 0; fine && i < 3; i++) fine = lay(x, m, calls) && call(36, x, m, calls) && call(17, x, m, calls) && call(8, x, m, calls);
        if (fine && run % 8 == 0) fine = call(24, x, m, calls) && call(32, x, m, calls) && call(38, x, m, calls);
        if (!fine) System.out.println("text " + run + ": " + calls);
    }

    private static boolean check(List<String> calls, String call, int got, int want) {
        calls.add(call);
        if (got == want) return true;
        wrong++;
        System.out.println(call + " answered " + got + ", the model " + want);
        return false;
    }

    private static boolean call(int which, DoorsRemember x, Model m, List<String> calls) {
        int rooms = m.rooms;
        int a, b, c, d, e;
        switch (which) {
            case 0: a = near(6); b = place(rooms); c = near(10);
                return check(calls, "door(" + a + ", " + b + ", " + c + ")", x.door(a, b, c), m.door(a, b, c));
            case 1: case 2: case 3: case 4: a = near(4); b = near(4); c = near(a == 3 ? 7 : 4);
                return check(calls, "set(" + a + ", " + b + ", " + c + ")", x.set(a, b, c), m.set(a, b, c));
            case 5: case 6: case 7: a = near(4); b = near(8);
                return check(calls, "told(" + a + ", " + b + ")", x.told(a, b), m.told(a, b));
            case 8: case 9: return check(calls, "open()", x.open(), m.open());
            case 10: a = near(9);
                long bytes = ((long) draw(1 << 30) << 34) ^ draw(1 << 30);
                return check(calls, "feed(" + a + ", " + bytes + ")", x.feed(a, bytes), m.feed(a, bytes));
            case 11: case 12: case 13: return m.texts.size() == 6 && draw(8) > 0 || speak(x, m, calls);
            case 14: return check(calls, "text()", x.text(), m.text());
            case 15: case 16: a = near(m.texts.size());
                return check(calls, "force(" + a + ")", x.force(a), m.force(a));
            case 17: return check(calls, "well()", x.well(), m.well());
            case 18: case 19: case 20: case 21: case 22: case 23: a = near(4);
                return check(calls, "go(" + a + ")", x.go(a), m.go(a));
            case 24: case 25: case 26: a = near(4);
                return check(calls, "come(" + a + ")", x.come(a), m.come(a));
            case 27: a = near(rooms);
                return check(calls, "shortest(" + a + ")", x.shortest(a), m.shortest(a));
            case 28: case 29: a = near(rooms); b = near(6);
                return check(calls, "first(" + a + ", " + b + ")", x.first(a, b), m.first(a, b));
            case 30: case 31: a = near(rooms);
                return check(calls, "shutIn(" + a + ")", x.shutIn(a), m.shutIn(a));
            case 32: return check(calls, "wished()", x.wished(), m.wished());
            case 33: return check(calls, "found()", x.found(), m.found());
            case 34: case 35: a = near(4);
                return check(calls, "judge(" + a + ")", x.judge(a), m.judge(a));
            case 36: case 37: a = near(4); b = near(2);
                return check(calls, "row(" + a + ", " + b + ")", x.row(a, b), m.row(a, b));
            case 38: a = near(4); b = near(2);
                return check(calls, "heard(" + a + ", " + b + ")", x.heard(a, b), m.heard(a, b));
            case 39: return check(calls, "oil()", x.oil(), m.oil());
            case 40: case 41: a = near(4); b = near(4);
                return check(calls, "thief(" + a + ", " + b + ")", x.thief(a, b), m.thief(a, b));
            case 42: return draw(3) > 0 || check(calls, "image()", x.image(), m.image());
            case 43: case 44: return check(calls, "back()", x.back(), m.back());
            case 45: case 46: a = near(8);
                return check(calls, "count(" + a + ")", x.count(a), m.count(a));
            case 47: a = near(4); b = near(4) - 1; c = draw(3) == 0 ? near(41) : draw(8);
                return check(calls, "sheet(" + a + ", " + b + ", " + c + ")", x.sheet(a, b, c), m.sheet(a, b, c));
            case 48: case 49: case 50: case 51: case 52: case 53: case 54: case 55:
                a = near(4); b = near(8); c = draw(8) == 0 ? draw(70000) - 30000 : near(4);
                return check(calls, "cell(" + a + ", " + b + ", " + c + ")", x.cell(a, b, c), m.cell(a, b, c));
            case 56: case 57: a = near(4); b = near(5); c = near(4); d = near(5); e = near(5);
                return check(calls, "copy(" + a + ", " + b + ", " + c + ", " + d + ", " + e + ")", x.copy(a, b, c, d, e), m.copy(a, b, c, d, e));
            case 58: a = near(4); b = near(3); c = near(4); d = near(5);
                return check(calls, "doors(" + a + ", " + b + ", " + c + ", " + d + ")", x.doors(a, b, c, d), m.doors(a, b, c, d));
            case 59: case 60: a = near(4); b = near(6);
                return check(calls, "taken(" + a + ", " + b + ")", x.taken(a, b), m.taken(a, b));
            default: return lay(x, m, calls);
        }
    }

    /** Lays a row of doors that can mostly be gone, so that judging and hearing come far. */
    private static boolean lay(DoorsRemember x, Model m, List<String> calls) {
        int sheet = draw(4), sort = draw(3), n = draw(10);
        if (!check(calls, "sheet(" + sheet + ", " + sort + ", " + n + ")", x.sheet(sheet, sort, n), m.sheet(sheet, sort, n))) return false;
        List<Integer> at = m.now();
        for (int i = 0; i < n; i++) {
            int v = draw(4);
            for (int k = 0; k < 4 && m.step(at, v) == null; k++) v = (v + 1) % 4;
            if (m.step(at, v) != null) at = m.step(at, v);
            if (draw(20) == 0) v = draw(6) - 1;
            if (!check(calls, "cell(" + sheet + ", " + i + ", " + v + ")", x.cell(sheet, i, v), m.cell(sheet, i, v))) return false;
        }
        return true;
    }

    /** Feeds a drawn text, now and then with a flaw. */
    private static boolean speak(DoorsRemember x, Model m, List<String> calls) {
        StringBuilder text = new StringBuilder();
        String shut = draw(3) == 0 ? "0" : draw(2) == 0 ? "turn*7+state*3+door+key*5-other=" + draw(30) : expression(0);
        String wish = draw(2) == 0 ? "room=" + draw(6) + " and state<" + draw(12) : expression(0);
        text.append(blank()).append("shut ").append(shut).append(blank()).append(";cost ").append(expression(0));
        text.append(";").append(blank()).append("wish ").append(wish).append(blank()).append(";").append(blank());
        for (int flaws = draw(6) - 3; flaws > 0; flaws--) {
            int at = draw(text.length());
            int die = draw(3);
            if (die == 0) text.setCharAt(at, "shut();+-*<= \n01notdrkeyandorwi$A\t".charAt(draw(34)));
            else if (die == 1) text.deleteCharAt(at);
            else text.setLength(at + 1);
        }
        if (draw(2) == 0) check(calls, "text()", x.text(), m.text());
        for (int i = 0; i < text.length(); i += 8) {
            int n = Math.min(8, text.length() - i);
            long bytes = 0;
            for (int k = n - 1; k >= 0; k--) bytes = bytes << 8 | text.charAt(i + k);
            if (!check(calls, "feed(" + n + ", " + bytes + ")", x.feed(n, bytes), m.feed(n, bytes))) return false;
        }
        return check(calls, "text() of [" + text + "]", x.text(), m.text());
    }

    private static String blank() {
        return draw(3) == 0 ? draw(2) == 0 ? " " : "\n " : "";
    }

    private static String expression(int depth) {
        int die = draw(depth > 6 ? 4 : 16);
        String[] names = {"door", "state", "turn", "room", "key", "other"};
        if (die < 2) return blank() + draw(draw(5) == 0 ? 12000 : 6);
        if (die < 4) return blank() + names[draw(6)];
        if (die < 5) return "-" + expression(depth + 1);
        if (die < 7) return "(" + expression(depth + 1) + ")";
        if (die < 9) return " not " + expression(depth + 1);
        String[] signs = {" or ", " and ", "<", "=", "+", "-", "*"};
        return expression(depth + 2) + signs[draw(7)] + expression(depth + 2);
    }
}
