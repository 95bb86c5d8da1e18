/** Promise by promise: what each call answers to ordinary inputs, at the edges, and to wrong inputs. */
public final class PromiseTests extends Asking {
    public static void main(String[] args) {
        constants();
        aNewObject();
        door();
        set();
        told();
        opens();
        next();
        open();
        feed();
        textAnswers();
        textFaults();
        textMeanings();
        force();
        well();
        go();
        come();
        shortestAndFirst();
        shutIn();
        wished();
        found();
        judge();
        row();
        heard();
        oil();
        thief();
        imageAndBack();
        count();
        sheet();
        cell();
        copy();
        doors();
        taken();
        end("promise by promise");
    }

    private static void constants() {
        due("NONE", DoorsRemember.NONE, NONE);
        due("BAD", DoorsRemember.BAD, BAD);
        due("STATE", DoorsRemember.STATE, STATE);
        due("FULL", DoorsRemember.FULL, FULL);
        due("NO", DoorsRemember.NO, -4611686018427387904L);
    }

    private static void aNewObject() {
        DoorsRemember x = new DoorsRemember();
        int[] counts = {3, 0, 0, 0, 1, 0, 0, 0};
        for (int i = 0; i < counts.length; i++) due("new: count(" + i + ")", x.count(i), counts[i]);
        due("new: open()", x.open(), 0);
        for (int i = 0; i < 4; i++) due("new: judge(" + i + ")", x.judge(i), MISSING);
        due("new: back()", x.back(), STATE);
    }

    private static void door() {
        DoorsRemember x = new DoorsRemember();
        int[][] bad = {{-1, 10, 0}, {6, 10, 0}, {0, -1, 0}, {0, -10, 0}, {0, 4, 0}, {0, 30, 0}, {0, 300, 0},
            {0, 1000, 0}, {0, Integer.MAX_VALUE, 0}, {0, Integer.MIN_VALUE, 0}, {0, 10, -1}, {0, 10, 10}};
        for (int[] b : bad) due("door(" + b[0] + ", " + b[1] + ", " + b[2] + ")", x.door(b[0], b[1], b[2]), BAD);
        due("no door came", x.count(1), 0);
        due("door(5, 123, 9)", x.door(5, 123, 9), 0);
        due("door(0, 0, 0)", x.door(0, 0, 0), 1);
        due("door(4, 222, 1)", x.door(4, 222, 1), 2);
        due("door(3, 200, 1)", x.door(3, 200, 1), 3);
        due("a fifth door", x.door(0, 0, 0), FULL);
        due("a fifth door that is bad, too", x.door(0, 30, 0), BAD);
        due("four doors", x.count(1), 4);
        int[] told = {5, 1, 2, 3, 0, 1, 1, 9};
        x.set(1, 0, 1);
        for (int i = 0; i < told.length; i++) due("told(0, " + i + ")", x.told(0, i), told[i]);
    }

    private static void set() {
        DoorsRemember x = withDoors(3, DOOR, 10, 0);
        due("set(0, 0, 3)", x.set(0, 0, 3), 0);
        due("set(0, 0, 1)", x.set(0, 0, 1), 3);
        due("set(0, 0, 4)", x.set(0, 0, 4), BAD);
        due("set(0, 0, -1)", x.set(0, 0, -1), BAD);
        due("set(0, 1, 0)", x.set(0, 1, 0), BAD);
        due("set(0, -1, 0)", x.set(0, -1, 0), BAD);
        due("the state", x.told(0, 4), 1);
        due("set(0, 0, 0)", x.set(0, 0, 0), 1);
        due("the state, 0 again", x.told(0, 4), 0);
        due("set(1, 77, 3)", x.set(1, 77, 3), 0);
        due("set(1, 0, 4)", x.set(1, 0, 4), BAD);
        due("set(1, 0, -1)", x.set(1, 0, -1), BAD);
        due("the turn", x.count(2), 3);
        due("set(1, 0, 0)", x.set(1, 0, 0), 3);
        due("the turn, 0 again", x.count(2), 0);
        due("set(2, -5, 2)", x.set(2, -5, 2), 0);
        due("set(2, 0, 3)", x.set(2, 0, 3), BAD);
        due("set(2, 0, -1)", x.set(2, 0, -1), BAD);
        due("the room", x.count(3), 2);
        due("set(3, 0, 2): one is there", x.set(3, 0, 2), BAD);
        x.set(2, 0, 0);
        due("set(3, 0, 1): a door is there", x.set(3, 0, 1), BAD);
        due("set(3, 9, 2)", x.set(3, 9, 2), 3);
        due("set(3, 0, 6)", x.set(3, 0, 6), 2);
        due("set(3, 0, 7)", x.set(3, 0, 7), BAD);
        due("set(3, 0, 0)", x.set(3, 0, 0), BAD);
        due("set(4, 0, 0)", x.set(4, 0, 0), BAD);
        due("set(-1, 0, 0)", x.set(-1, 0, 0), BAD);
        DoorsRemember far = withDoors(3, DOOR, 200, 0);
        due("set(3, 0, 2): a door's one room", far.set(3, 0, 2), BAD);
        DoorsRemember none = new DoorsRemember();
        due("set(3, 0, 1)", none.set(3, 0, 1), 3);
        due("one room", none.count(0), 1);
    }

    private static void told() {
        DoorsRemember x = withDoors(3, DOOR, 10, 0);
        due("told(0, 8)", x.told(0, 8), BAD);
        due("told(0, -1)", x.told(0, -1), BAD);
        due("told(1, 0)", x.told(1, 0), BAD);
        due("told(-1, 0)", x.told(-1, 0), BAD);
        DoorsRemember y = under("shut room = 1 ; cost 0 ; wish 0 ;");
        y.door(DOOR, 100, 0);
        y.door(DOOR, 10, 0);
        due("told(0, 5) from its first room", y.told(0, 5), 0);
        due("told(1, 5) from its first room", y.told(1, 5), 1);
        due("open() from the other one", y.open(), 3);
    }

    private static void opens() {
        for (int state = 0; state < 4; state++) {
            for (int turn = 0; turn < 4; turn++) {
                for (int key = 0; key < 4; key++) {
                    DoorsRemember x = withDoors(3, DOOR, 10, 0);
                    x.door(AFTER, 10, 6);
                    x.door(NEVER, 10, 6);
                    x.set(0, 0, key);
                    x.set(0, 1, state);
                    x.set(0, 2, state);
                    x.set(1, 0, turn);
                    due("DOOR opens", x.told(0, 5), 1);
                    due("AFTER opens", x.told(1, 5), key > 0 ? 1 : 0);
                    due("NEVER opens", x.told(2, 5), key > 0 ? 0 : 1);
                }
                DoorsRemember y = withDoors(3, COUNT, 10, 6, ONCE, 10, 6, LATE, 10, 7);
                for (int i = 0; i < 3; i++) y.set(0, i, state);
                y.set(1, 0, turn);
                due("COUNT opens", y.told(0, 5), turn == 2 ? 1 : 0);
                due("ONCE opens", y.told(1, 5), state == 0 ? 1 : 0);
                due("LATE opens", y.told(2, 5), turn == 3 && state < 2 ? 1 : 0);
            }
        }
        DoorsRemember own = withDoors(3, AFTER, 10, 0, NEVER, 11, 0);
        due("AFTER whose key is itself", own.told(0, 5), 0);
        own.set(0, 0, 1);
        due("AFTER whose key is itself, gone through", own.told(0, 5), 1);
        due("NEVER whose key is itself", own.told(1, 5), 1);
        own.set(0, 1, 2);
        due("NEVER whose key is itself, gone through", own.told(1, 5), 0);
        DoorsRemember none = withDoors(3, AFTER, 12, 0, NEVER, 12, 0);
        due("AFTER without a key", none.told(0, 5), 0);
        due("NEVER without a key", none.told(1, 5), 1);
        none.door(DOOR, 12, 0);
        none.set(0, 2, 1);
        due("AFTER whose key came", none.told(0, 5), 1);
        due("NEVER whose key came", none.told(1, 5), 0);
        DoorsRemember x = under("shut turn = 2 ; cost 0 ; wish 0 ;");
        for (int kind : new int[] {DOOR, COUNT, ONCE, NEVER}) x.door(kind, 13, 2);
        due("not yet shut", x.open(), 13);
        x.set(1, 0, 2);
        due("shut besides", x.open(), 0);
    }

    private static void next() {
        int[][] next = {{1, 2, 3, 3}, {1, 2, 3, 3}, {1, 2, 3, 0}, {3, 3, 3, 3}, {1, 2, 0, 0}, {1, 2, 2, 0}};
        for (int kind = 0; kind < 6; kind++) {
            DoorsRemember x = withDoors(3, kind, 10, 0);
            for (int state = 0; state < 4; state++) {
                x.set(0, 0, state);
                due("next of kind " + kind + " at " + state, x.told(0, 6), next[kind][state]);
            }
        }
    }

    private static void open() {
        DoorsRemember x = withDoors(4, DOOR, 10, 0, DOOR, 120, 0, DOOR, 200, 0, ONCE, 0, 0);
        due("open()", x.open(), 1 | 4 | 8);
        x.set(0, 3, 1);
        due("open(), once", x.open(), 1 | 4);
        x.set(2, 0, 1);
        due("open() in 1", x.open(), 3);
        x.set(2, 0, 2);
        due("open() in 2", x.open(), 6);
        x.set(2, 0, 3);
        due("open() in 3", x.open(), 0);
    }

    private static void feed() {
        DoorsRemember x = new DoorsRemember();
        due("feed(0, 0)", x.feed(0, 0), BAD);
        due("feed(-1, 0)", x.feed(-1, 0), BAD);
        due("feed(9, 0)", x.feed(9, 0), BAD);
        due("feed(1, ..)", x.feed(1, 's' | 'x' << 8), 1);
        for (int i = 1; i < 20; i++) x.feed(8, -1);
        due("feed(8, -1) of 153", x.feed(8, -1), FULL);
        due("the tape stays", x.count(5), 153);
        due("feed(7, -1)", x.feed(7, -1), 160);
        due("feed(1, 0)", x.feed(1, 0), FULL);
        due("feed(9, 0), full", x.feed(9, 0), BAD);
        due("text(): an s, then what begins no token", x.text(), -100);
        due("the tape is empty", x.count(5), 0);
        due("feed(8, lowest first)", x.feed(8, 0x2030207475687300L | 0x2030207475687300L), 8);
        due("text(): its first byte is 0", x.text(), -100);
        DoorsRemember y = new DoorsRemember();
        y.feed(8, 0x3B30202074756873L);
        y.feed(7, 0x3B302074736F63L);
        y.feed(7, 0x3B302068736977L);
        due("text() by bytes, the lowest first", y.text(), 1);
    }

    private static void textAnswers() {
        due("an empty text", read(""), -100);
        due("blanks alone", read("  \n "), -104);
        DoorsRemember x = new DoorsRemember();
        for (int i = 1; i < 6; i++) {
            say(x, FIRST_RULE);
            due("text() " + i, x.text(), i);
            due("the tape", x.count(5), 0);
            due("texts", x.count(4), i + 1);
            say(x, "shut");
            if (i < 5) due("a text that ends", x.text(), -104);
        }
        due("text(), full", x.text(), FULL);
        due("the tape stays", x.count(5), 4);
        StringBuilder longest = new StringBuilder("shut 0;cost 0;wish 1");
        for (int i = 0; i < 69; i++) longest.append("+1");
        DoorsRemember y = new DoorsRemember();
        say(y, longest + " ;");
        due("a text of 160", y.count(5), 160);
        due("text() of 160", y.text(), 1);
        y.force(1);
        due("well() by 160", y.well(), 1);
    }

    private static void textFaults() {
        String[] whole = {FIRST_RULE, "shut0;cost1;wish2;", "\n shut\n0 ;cost 1;wish 2 ; \n", "shut 9999;cost 0;wish 0;",
            "shut (((((1)))));cost 0;wish 0;", "shut not not not not not 1;cost 0;wish 0;",
            "shut -----1;cost 0;wish 0;", "shut (((((1-2)))));cost 0;wish 0;",
            "shut not(not-(1)) or (((((1)))));cost -----1;wish not not not not not 1;",
            "shut -1+-1+-1+-1+-1+-1;cost 0;wish 0;", "shut not 1 and not 1 and not 1 and not 1 and not 1 and not 1;cost 0;wish 0;",
            "shut 0 - - 1;cost 0;wish 0;", "shut door;cost other*key;wish state<turn;"};
        for (String text : whole) due("text() of " + text, read(text), 1);
        Object[][] faulty = {
            {"cost 0;", 0}, {"shut ;", 5}, {"shut 0 cost", 7}, {"shut 0;wish 0;", 7}, {"shut 0;cost 0;", 14},
            {"shut 0;cost 0;  ", 16}, {"shut 0;cost 0;wish 0", 20}, {"shut 0;cost 0;wish 0; 0", 22},
            {"shut 0;cost 0;wish 0;;", 21}, {"shut 00000;cost", 5}, {"shut 1+12345;cost", 7}, {"shut doors;", 5},
            {"shut dor;", 5}, {"shut doorz;", 5}, {"shut zdoor;", 5}, {"shut ador;", 5}, {"shut Door;", 5}, {"shut 0,1;", 6}, {"shut\t0;", 4}, {"shut 1 < 2 < 3;", 11},
            {"shut 1 = 2 < 3;", 11}, {"shut 1 + not 1;", 9}, {"shut 1 < not 1;", 9}, {"shut - not 1;", 7},
            {"shut 1 2;", 7}, {"shut 1 door;", 7}, {"shut (1;", 7}, {"shut 1);", 6}, {"shut ();", 6}, {"shut", 4},
            {"shut or 1;", 5}, {"shut 1 or or 1;", 10}, {"shut 1 *;", 8}, {"shut + 1;", 5}, {"shut shut;", 5},
            {"shut ((((((1))))));", 10}, {"shut not not not not not not 1;", 25}, {"shut ------1;", 10},
            {"shut (-(-(not 1)));", 10}, {"shut not (-(-(1)));", 13}, {"shut not (-(-door)) = -((not(not -1)));", 28},
            {"shutt 0;", 0}, {"shut 0;costs", 7}, {"shut 1 and;", 10}, {"shut 1 $", 7}, {"shut 12a;", 7},
            {"shut 0 ; cost \u00e9", 14}, {"shut (((((not 1)))));", 10}, {"shut (((((-1)))));", 10}};
        for (Object[] f : faulty) due("text() of " + f[0], read((String) f[0]), -100 - (Integer) f[1]);
    }

    /** As many things as can be wait for what stands inside: each of six levels turns 0 into 1, and all else into 0. */
    private static String nested(String inmost) {
        String level = "0 or 2 and 1<2-1*";
        return (level + "(").repeat(5) + level + inmost + ")".repeat(5);
    }

    private static void textMeanings() {
        Object[][] worths = {{"door", 2}, {"state", 1}, {"turn", 2}, {"room", 5}, {"key", 3}, {"other", 3},
            {"1+2*3", 7}, {"(1+2)*3", 9}, {"9-3-2", 4}, {"9-(3-2)", 8}, {"5 or 0", 1}, {"0 or 0", 0}, {"5 and 7", 1},
            {"5 and 0", 0}, {"0 or 1 and 0", 0}, {"1 or 1 and 0", 1}, {"not 5", 0}, {"not 0", 1}, {"not 1 = 0", 1},
            {"not not 7", 1}, {"1<2", 1}, {"2<2", 0}, {"2=2", 1}, {"2=3", 0}, {"-1<0", 1}, {"- -7", 7}, {"3--4", 7},
            {"-7", 0}, {"99", 99}, {"100", 99}, {"9999", 99}, {"0-1", 0}, {"-2*-3", 6}, {"0009", 9}, {"1+1=2", 1},
            {"1=0+1", 1}, {nested("7"), 1}, {nested("0"), 0}, {"not 1 or 1", 1}, {"not (1 or 1)", 0}, {"9999*9999*9999 < 0", 1},
            {"9999*9999*9999*9999 < 0", 0}, {"9999*9999*43 = 4172*1000+747", 1}, {"(2-3)*(2-3)", 1},
            {"0 or (0 and (1 < (2 - 1 * (1 + (5)))))", 0}, {"1 and (0 or (1 < (9 - 1 * (1 + 5))))", 1}};
        for (Object[] w : worths) due((String) w[0], worth((String) w[0]), (Integer) w[1]);
        DoorsRemember x = under("shut door=1 or other=2 and room=0; cost 0; wish state=5 and key=0 and door=0 and other=0;");
        x.door(DOOR, 10, 0);
        x.door(DOOR, 10, 0);
        x.door(DOOR, 20, 0);
        due("shut by names", x.open(), 1);
        x.set(2, 0, 2);
        due("shut by names, from the other side", x.open(), 4);
        x.set(0, 0, 3);
        due("not well by all states", x.well(), 0);
        x.set(0, 2, 2);
        due("well by all states", x.well(), 1);
        DoorsRemember key = under("shut key = 2; cost 0; wish 0;");
        key.door(DOOR, 0, 0);
        key.door(DOOR, 3, 0);
        key.set(0, 0, 2);
        due("shut by the key's state", key.open(), 2);
    }

    private static void force() {
        DoorsRemember x = withDoors(3, DOOR, 10, 0);
        due("force(1)", x.force(1), BAD);
        due("force(-1)", x.force(-1), BAD);
        due("force(0)", x.force(0), 0);
        say(x, "shut 1;cost 0;wish 1;");
        due("text()", x.text(), 1);
        due("a text that was read is not yet the rule", x.open(), 1);
        due("force(1) then", x.force(1), 0);
        due("it is the rule", x.open(), 0);
        due("count(6)", x.count(6), 1);
        due("well()", x.well(), 1);
        due("force(2)", x.force(2), BAD);
        due("force(0) again", x.force(0), 1);
        due("open() again", x.open(), 1);
    }

    private static void well() {
        DoorsRemember x = new DoorsRemember();
        due("well() in 0", x.well(), 0);
        x.set(2, 0, 2);
        due("well() in 2", x.well(), 1);
        DoorsRemember y = under("shut 0;cost 0;wish -3;");
        due("well() by -3", y.well(), 1);
    }

    private static void go() {
        DoorsRemember x = withDoors(3, DOOR, 10, 0, AFTER, 121, 0, ONCE, 0, 0);
        due("go(3)", x.go(3), BAD);
        due("go(-1)", x.go(-1), BAD);
        due("go(1): not of this room", x.go(1), STATE);
        due("go(2)", x.go(2), 0);
        due("go(2): it does not open", x.go(2), STATE);
        due("nothing changed", x.count(2) * 10 + x.count(7), 13);
        due("go(0)", x.go(0), 1);
        due("go(1): its key is itself", x.go(1), STATE);
        x.set(0, 1, 1);
        due("go(1)", x.go(1), 2);
        due("the turn", x.count(2), 3);
        due("go(1) back", x.go(1), 1);
        due("the turn, 0 behind 3", x.count(2), 0);
        due("the state", x.told(1, 4), 3);
        due("the room", x.count(3), 1);
        DoorsRemember y = withDoors(3, AFTER, 0, 0);
        y.set(0, 0, 1);
        due("one room", y.go(0), 0);
        due("its state", y.told(0, 4), 2);
    }

    private static void come() {
        DoorsRemember x = withDoors(4, ONCE, 10, 0, ONCE, 130, 0);
        due("come(-1)", x.come(-1), BAD);
        due("come(4)", x.come(4), BAD);
        due("come(0)", x.come(0), 1 | 2 | 8);
        due("come(1)", x.come(1), 3);
        due("come(2)", x.come(2), 2);
        due("come(3)", x.come(3), 1);
        due("nothing changed", x.count(7) + x.count(2) + x.count(3), 0);
        DoorsRemember y = withDoors(6, COUNT, 10, 0, COUNT, 120, 1, COUNT, 230, 2, COUNT, 340, 3);
        due("come(0) by turns", y.come(0), 31);
        due("come(2) by turns", y.come(2), 4);
        due("come(3) by turns", y.come(3), 1);
        DoorsRemember away = new DoorsRemember();
        away.set(2, 0, 2);
        due("come(0) without doors", away.come(0), 4);
        due("come(1) without doors", away.come(1), 1);
        due("come(2) without doors", away.come(2), 0);
        due("come(3) without doors", away.come(3), 1);
        DoorsRemember last = withDoors(6, DOOR, 550, 0, DOOR, 550, 0, DOOR, 550, 0, DOOR, 550, 0);
        for (int i = 0; i < 4; i++) last.set(0, i, 3);
        last.set(1, 0, 3);
        last.set(2, 0, 5);
        due("come(0) from the last situation", last.come(0), 32);
        due("come(1) from the last situation", last.come(1), 4);
        due("come(2) from the last situation", last.come(2), 3);
        due("come(3) from the last situation", last.come(3), 0);
        due("found() from the last situation", last.found(), 4);
        due("shutIn(0) from the last situation", last.shutIn(0), 32);
        due("shutIn(5) from the last situation", last.shutIn(5), 0);
        DoorsRemember all = withDoors(6, COUNT, 10, 0);
        all.set(1, 0, 1);
        due("come(0): shut in by the turn", all.come(0), 1);
        due("come(1): shut in by the turn", all.come(1), 1);
    }

    private static void shortestAndFirst() {
        DoorsRemember x = withDoors(4, DOOR, 10, 0, DOOR, 10, 0, DOOR, 120, 0, DOOR, 120, 0);
        due("shortest(0)", x.shortest(0), 0);
        due("shortest(1)", x.shortest(1), 1);
        due("shortest(2)", x.shortest(2), 2);
        due("shortest(3)", x.shortest(3), NONE);
        due("shortest(4)", x.shortest(4), BAD);
        due("shortest(-1)", x.shortest(-1), BAD);
        due("first(2, 0)", x.first(2, 0), 0);
        due("first(2, 1)", x.first(2, 1), 2);
        due("first(2, 2)", x.first(2, 2), NONE);
        due("first(2, -1)", x.first(2, -1), NONE);
        due("first(0, 0)", x.first(0, 0), NONE);
        due("first(3, 0)", x.first(3, 0), NONE);
        due("first(4, 0)", x.first(4, 0), BAD);
        due("first(-1, 0)", x.first(-1, 0), BAD);
        due("first(2, big)", x.first(2, Integer.MAX_VALUE), NONE);
        // Both rows have two doors: by numbers 1 3 comes ahead of 2 0.
        DoorsRemember y = withDoors(4, DOOR, 230, 0, DOOR, 10, 0, DOOR, 20, 0, DOOR, 130, 0);
        due("first(3, 0)", y.first(3, 0), 1);
        due("first(3, 1)", y.first(3, 1), 3);
        // The key of door 1 must be gone through first.
        DoorsRemember z = withDoors(3, AFTER, 21, 0, DOOR, 0, 0);
        due("shortest(2) by a key", z.shortest(2), 2);
        due("first(2, 0) by a key", z.first(2, 0), 1);
        due("first(2, 1) by a key", z.first(2, 1), 0);
    }

    private static void shutIn() {
        DoorsRemember x = withDoors(4, ONCE, 10, 0, DOOR, 120, 0);
        due("shutIn(0)", x.shutIn(0), 2 | 4);
        due("shutIn(1)", x.shutIn(1), 0);
        due("shutIn(2)", x.shutIn(2), 0);
        due("shutIn(3)", x.shutIn(3), 1 | 2 | 4);
        due("shutIn(4)", x.shutIn(4), BAD);
        due("shutIn(-1)", x.shutIn(-1), BAD);
        // In room 0 one may be either with the way to room 2 open still, or behind it for good.
        DoorsRemember y = withDoors(3, ONCE, 20, 0, NEVER, 20, 0);
        due("shutIn(2) by a key", y.shutIn(2), 1);
    }

    private static void wished() {
        DoorsRemember x = withDoors(3, DOOR, 10, 0, DOOR, 120, 0);
        due("wished()", x.wished(), 2);
        x.set(2, 0, 2);
        due("wished(), there", x.wished(), 0);
        DoorsRemember y = withDoors(3, DOOR, 10, 0);
        due("wished(), never", y.wished(), NONE);
        DoorsRemember gone = under("shut 0;cost 0;wish room = 0;");
        gone.set(2, 0, 1);
        due("wished(), where one can't come to", gone.wished(), NONE);
        due("shortest(), where one can't come to", gone.shortest(0), NONE);
        say(y, "shut 0;cost 0;wish state = 3 and turn = 1 and room = 1;");
        y.force(y.text());
        due("wished() by state, turn, room", y.wished(), 5);
    }

    private static void found() {
        due("found() without doors", new DoorsRemember().found(), NONE);
        DoorsRemember x = withDoors(3, COUNT, 0, 0);
        due("found(): the turn does not come again", x.found(), NONE);
        DoorsRemember y = withDoors(3, NEVER, 3, 0);
        due("found(): three states and four turns", y.found(), 12);
        y.set(0, 0, 3);
        due("found(): a state that is not come to again", y.found(), NONE);
        DoorsRemember z = withDoors(3, DOOR, 10, 0);
        due("found(), not yet", z.found(), NONE);
        z.set(0, 0, 3);
        due("found(), worn", z.found(), 4);
        due("nothing changed", z.told(0, 4), 3);
    }

    private static void judge() {
        DoorsRemember x = withDoors(3, DOOR, 10, 0, ONCE, 120, 0);
        for (int sort = 0; sort < 3; sort++) {
            row(x, sort, sort, 0, 1, 1);
            due("judge(): it doesn't open", x.judge(sort), 2);
            row(x, sort, sort, 0, 0, 1);
            due("judge(): not of that room", x.judge(sort), 2);
            row(x, sort, sort, 0, 0, 0, 1);
            due("judge(): none", x.judge(sort), NONE);
            row(x, sort, sort, 0, 2);
            due("judge(): no such door", x.judge(sort), 1);
            row(x, sort, sort, -1);
            due("judge(): no such door", x.judge(sort), 0);
            row(x, sort, sort);
            due("judge(): an empty row", x.judge(sort), NONE);
        }
        due("judge(3)", x.judge(3), MISSING);
        due("judge(4)", x.judge(4), BAD);
        due("judge(-1)", x.judge(-1), BAD);
        due("nothing changed", x.count(7) + x.count(3) + x.count(2), 0);
    }

    private static void row() {
        DoorsRemember x = withDoors(3, DOOR, 10, 0, DOOR, 120, 0);
        row(x, 0, 0, 0, 1, 1, 0);
        due("row(0, 0)", x.row(0, 0), 1 + 1 + 2 + 2);
        due("row(0, 1)", x.row(0, 1), 0);
        row(x, 1, 2, 0, 1, 0, 1);
        due("row(1, 0), up to the fault", x.row(1, 0), 2);
        due("row(1, 1), up to the fault", x.row(1, 1), 2);
        row(x, 1, 2);
        due("row(1, 0), empty", x.row(1, 0), 0);
        due("row(1, 1), empty", x.row(1, 1), 0);
        due("row(2, 0)", x.row(2, 0), MISSING);
        due("row(2, 2)", x.row(2, 2), BAD);
        due("row(2, -1)", x.row(2, -1), BAD);
        due("row(4, 0)", x.row(4, 0), BAD);
        due("row(-1, 0)", x.row(-1, 0), BAD);
        DoorsRemember y = under("shut 0;cost (room - 1) * 500;wish 0;");
        y.door(DOOR, 20, 0);
        row(y, 0, 1, 0, 0, 0);
        due("costs within their bounds", y.row(0, 0), 99);
    }

    private static void heard() {
        DoorsRemember x = withDoors(4, DOOR, 10, 0, ONCE, 120, 0);
        row(x, 0, 0, 0);
        due("heard(0, 0)", x.heard(0, 0), 3);
        due("heard(0, 1)", x.heard(0, 1), 2 * 4 * 16);
        row(x, 1, 1, 0, 1);
        due("heard(1, 0)", x.heard(1, 0), 1);
        due("heard(1, 1)", x.heard(1, 1), 4 * 4);
        x.set(0, 1, 1);
        due("heard(1, 0), the house as it is now", x.heard(1, 0), 0);
        due("heard(1, 1), of all situations", x.heard(1, 1), 4 * 4);
        row(x, 2, 2);
        due("heard(2, 0), empty", x.heard(2, 0), 15);
        due("heard(2, 1), empty", x.heard(2, 1), 4 * 4 * 16);
        due("heard(3, 0)", x.heard(3, 0), MISSING);
        due("heard(3, 2)", x.heard(3, 2), BAD);
        due("heard(0, -1)", x.heard(0, -1), BAD);
        due("heard(4, 0)", x.heard(4, 0), BAD);
        due("heard(-1, 1)", x.heard(-1, 1), BAD);
        DoorsRemember all = withDoors(6, DOOR, 0, 0, DOOR, 110, 0, DOOR, 220, 0, DOOR, 330, 0);
        row(all, 0, 0);
        due("all situations there can be", all.heard(0, 1), 6144);
    }

    private static void oil() {
        due("oil() without doors", new DoorsRemember().oil(), NONE);
        DoorsRemember x = withDoors(4, DOOR, 10, 0, AFTER, 11, 0, AFTER, 122, 0, AFTER, 232, 0);
        due("oil(): door 2 leads on to 3", x.oil(), 2);
        due("it is not oiled", x.told(2, 0), AFTER);
        due("it does not open", x.told(2, 5), 0);
        DoorsRemember y = withDoors(3, DOOR, 10, 0, DOOR, 20, 0);
        due("oil(): of like ones the first", y.oil(), 0);
        due("oil(): none helps", withDoors(3, DOOR, 110, 0, DOOR, 220, 0).oil(), 0);
        DoorsRemember z = under("shut door = 0;cost 0;wish 0;");
        z.door(AFTER, 10, 0);
        z.door(AFTER, 21, 0);
        due("oil(): shut besides", z.oil(), 1);
    }

    private static void thief() {
        DoorsRemember x = withDoors(3, AFTER, 10, 0, ONCE, 120, 0);
        due("thief(0, 1)", x.thief(0, 1), 3);
        due("thief(0, 0)", x.thief(0, 0), 1);
        due("thief(1, 3)", x.thief(1, 3), 1);
        x.set(0, 0, 1);
        due("thief(1, 3) then", x.thief(1, 3), 2);
        due("nothing changed", x.told(1, 4), 0);
        due("thief(0, 4)", x.thief(0, 4), BAD);
        due("thief(0, -1)", x.thief(0, -1), BAD);
        due("thief(2, 0)", x.thief(2, 0), BAD);
        due("thief(-1, 0)", x.thief(-1, 0), BAD);
    }

    private static void imageAndBack() {
        DoorsRemember x = withDoors(3, DOOR, 10, 0);
        say(x, FIRST_RULE);
        x.text();
        x.set(0, 0, 2);
        x.set(1, 0, 3);
        x.set(2, 0, 1);
        due("image()", x.image(), 1);
        x.set(0, 0, 0);
        x.set(1, 0, 0);
        x.set(2, 0, 2);
        x.force(1);
        x.door(DOOR, 110, 0);
        x.set(0, 1, 3);
        x.set(3, 0, 5);
        due("back()", x.back(), 1);
        due("its state", x.told(0, 4), 2);
        due("the state of a door that came since", x.told(1, 4), 3);
        int[] counts = {5, 2, 3, 1, 2, 0, 0, 5};
        for (int i = 0; i < counts.length; i++) due("back: count(" + i + ")", x.count(i), counts[i]);
        x.set(2, 0, 0);
        due("back() once more", x.back(), 1);
        x.set(2, 0, 0);
        due("image() once more", x.image(), 0);
        x.set(2, 0, 4);
        due("back() to the later one", x.back(), 0);
        DoorsRemember y = new DoorsRemember();
        due("back() without an image", y.back(), STATE);
        y.set(2, 0, 2);
        y.image();
        y.set(2, 0, 0);
        y.set(3, 0, 2);
        y.set(1, 0, 1);
        due("back(): no such room any more", y.back(), STATE);
        due("nothing changed", y.count(2), 1);
        y.set(3, 0, 3);
        due("back(): it is there again", y.back(), 2);
        due("the turn", y.count(2), 0);
        DoorsRemember z = withDoors(3, DOOR, 10, 0);
        say(z, "shut 1;cost 0;wish 0;");
        z.text();
        z.image();
        z.force(1);
        due("shut", z.open(), 0);
        z.back();
        due("open by the rule of the image", z.open(), 1);
    }

    private static void count() {
        DoorsRemember x = withDoors(5, DOOR, 0, 0, DOOR, 0, 0, DOOR, 0, 0, DOOR, 0, 0);
        for (int i = 0; i < 4; i++) x.set(0, i, 3);
        x.set(1, 0, 2);
        x.set(2, 0, 4);
        say(x, "shut");
        int[] counts = {5, 4, 2, 4, 1, 4, 0, 12};
        for (int i = 0; i < counts.length; i++) due("count(" + i + ")", x.count(i), counts[i]);
        due("count(8)", x.count(8), BAD);
        due("count(-1)", x.count(-1), BAD);
    }

    private static void sheet() {
        DoorsRemember x = withDoors(3, DOOR, 0, 0);
        due("sheet(4, 0, 0)", x.sheet(4, 0, 0), BAD);
        due("sheet(-1, 0, 0)", x.sheet(-1, 0, 0), BAD);
        due("sheet(0, 3, 0)", x.sheet(0, 3, 0), BAD);
        due("sheet(0, -2, 0)", x.sheet(0, -2, 0), BAD);
        due("sheet(0, 0, 41)", x.sheet(0, 0, 41), BAD);
        due("sheet(0, 0, -1)", x.sheet(0, 0, -1), BELOW_ZERO);
        due("sheet(0, 3, -1)", x.sheet(0, 3, -1), BAD);
        due("sheet(0, 0, lowest)", x.sheet(0, 0, Integer.MIN_VALUE), BELOW_ZERO);
        due("it is missing still", x.judge(0), MISSING);
        due("sheet(0, 0, 40)", x.sheet(0, 0, 40), 1);
        due("it is all door 0", x.judge(0), NONE);
        due("its last item", x.cell(0, 39, 7), 1);
        due("judge(0)", x.judge(0), 39);
        due("sheet(0, 2, -1)", x.sheet(0, 2, -1), BELOW_ZERO);
        due("it stays", x.judge(0), 39);
        due("sheet(0, 2, 40)", x.sheet(0, 2, 40), 1);
        due("all 0 again", x.judge(0), NONE);
        due("sheet(0, -1, 99)", x.sheet(0, -1, 99), 1);
        due("missing again", x.judge(0), MISSING);
        due("sheet(3, -1, -9)", x.sheet(3, -1, -9), 1);
    }

    private static void cell() {
        DoorsRemember x = withDoors(3, DOOR, 0, 0);
        due("cell(0, 0, 0)", x.cell(0, 0, 0), MISSING);
        due("cell(4, 0, 0)", x.cell(4, 0, 0), BAD);
        due("cell(-1, 0, 0)", x.cell(-1, 0, 0), BAD);
        x.sheet(0, 0, 2);
        due("cell(0, 2, 0)", x.cell(0, 2, 0), OUTSIDE);
        due("cell(0, -1, 0)", x.cell(0, -1, 0), OUTSIDE);
        x.sheet(1, 0, 0);
        due("cell(1, 0, 0)", x.cell(1, 0, 0), OUTSIDE);
        int[] items = {1 << 8, 1 << 16, 1 << 24};
        for (int sort = 0; sort < 3; sort++) {
            for (int i = 0; i < 3; i++) {
                row(x, 0, sort, items[i]);
                due("sort " + sort + ", " + items[i], x.judge(0), i >= sort ? sort == 2 ? 0 : NONE : 0);
            }
        }
        // A byte is one of Java's: 200 is below 0, so it is no place of a door; a short is, up to 32767.
        x.set(3, 0, 6);
        row(x, 0, 0, 0, 200, 0);
        due("a byte above 127", x.doors(0, 0, 0, 1), 0);
        row(x, 0, 1, 0, 200 + (1 << 16), 0);
        due("a short", x.doors(0, 1, 0, 1), 1);
        due("its one room", x.told(1, 1), 2);
    }

    private static void copy() {
        DoorsRemember x = withDoors(6, DOOR, 0, 0, DOOR, 0, 0, DOOR, 0, 0);
        x.sheet(0, 0, 4);
        x.sheet(1, 1, 4);
        due("copy(4, ..)", x.copy(4, 0, 0, 0, 0), BAD);
        due("copy(-1, ..)", x.copy(-1, 0, 0, 0, 0), BAD);
        due("copy(.., 4, ..)", x.copy(0, 0, 4, 0, 0), BAD);
        due("copy(2, .., 4, ..)", x.copy(2, 0, 4, 0, 0), BAD);
        due("copy(2, ..)", x.copy(2, 0, 0, 0, 0), MISSING);
        due("copy(.., 2, ..)", x.copy(0, 0, 2, 0, 0), MISSING);
        due("copy of unlike sorts", x.copy(0, 0, 1, 0, 1), OTHER_SORT);
        due("copy of unlike sorts, outside", x.copy(0, 9, 1, 0, -1), OTHER_SORT);
        x.sheet(1, 0, 2);
        int[][] outside = {{-1, 0, 1}, {0, -1, 1}, {0, 0, -1}, {4, 0, 1}, {0, 2, 1}, {0, 0, 3}, {3, 0, 2}, {5, 0, 0},
            {0, 3, 0}, {1, 0, Integer.MAX_VALUE}, {Integer.MAX_VALUE, 0, 1}, {0, 0, Integer.MIN_VALUE}};
        for (int[] o : outside) {
            due("copy(0, " + o[0] + ", 1, " + o[1] + ", " + o[2] + ")", x.copy(0, o[0], 1, o[1], o[2]), OUTSIDE);
        }
        due("copy of none, at the ends", x.copy(0, 4, 1, 2, 0), 0);
        // As they were: 0 9 1 2 3 becomes 0 0 9 1 2, and back 0 9 1 2 2.
        row(x, 0, 2, 0, 9, 1, 2, 3);
        due("copy on itself, upward", x.copy(0, 0, 0, 1, 4), 4);
        due("judge(0)", x.judge(0), 2);
        due("copy on itself, downward", x.copy(0, 3, 0, 1, 2), 2);
        due("judge(0): 0 1 2 1 2", x.judge(0), NONE);
        due("row(0, 0): 0 1 2 1 2", x.row(0, 0), 1 + 1 + 1 + 2 + 2);
        row(x, 3, 2, 7, 7, 7);
        due("copy(0, 2, 3, 0, 2)", x.copy(0, 2, 3, 0, 2), 2);
        due("judge(3): 2 1 7", x.judge(3), 2);
        due("row(3, 0): 2 1 7", x.row(3, 0), 2);
    }

    private static void doors() {
        DoorsRemember x = new DoorsRemember();
        row(x, 0, 2, DOOR, 10, 1, 9, 9, 9, ONCE, 123, 4, LATE, 222, 5);
        due("doors(4, ..)", x.doors(4, 2, 0, 1), BAD);
        due("doors(-1, ..)", x.doors(-1, 2, 0, 1), BAD);
        due("doors(0, 3, ..)", x.doors(0, 3, 0, 1), BAD);
        due("doors(0, -1, ..)", x.doors(0, -1, 0, 1), BAD);
        due("doors(.., 5)", x.doors(0, 2, 0, 5), BAD);
        due("doors(.., -1)", x.doors(0, 2, 0, -1), BAD);
        due("doors of another sort", x.doors(0, 1, 0, 1), OTHER_SORT);
        due("doors of another sort, none", x.doors(0, 1, 0, 0), OTHER_SORT);
        due("doors of a missing sheet", x.doors(1, 1, 0, 1), MISSING);
        due("doors of a missing sheet, none", x.doors(1, 1, 0, 0), MISSING);
        due("doors from -1", x.doors(0, 2, -1, 1), OUTSIDE);
        due("doors from the greatest", x.doors(0, 2, Integer.MAX_VALUE, 4), OUTSIDE);
        due("doors from outside, none", x.doors(0, 2, 99, 0), 0);
        due("none came", x.count(1), 0);
        due("doors(0, 2, 0, 4)", x.doors(0, 2, 0, 4), 3);
        due("three came", x.count(1), 3);
        due("told(1, 0)", x.told(1, 0), ONCE);
        due("told(1, 1)", x.told(1, 1), 1);
        due("told(1, 2)", x.told(1, 2), 2);
        due("told(1, 3)", x.told(1, 3), 3);
        due("told(1, 7)", x.told(1, 7), 4);
        due("doors(0, 2, 0, 3): full", x.doors(0, 2, 0, 3), 1);
        due("four came", x.count(1), 4);
        DoorsRemember y = new DoorsRemember();
        row(y, 3, 0, 0, 0, 0, DOOR, 11, 2, DOOR, 21);
        due("doors(3, 0, 3, 2)", y.doors(3, 0, 3, 2), OUTSIDE);
        due("what stood ahead came", y.count(1), 1);
        due("its number", y.told(0, 7), 2);
    }

    private static void taken() {
        int[][] under = {{DOOR}, {AFTER, DOOR}, {COUNT, DOOR}, {ONCE, DOOR}, {NEVER, AFTER, DOOR}, {LATE, COUNT, DOOR}};
        for (int kind = 0; kind < 6; kind++) {
            DoorsRemember x = withDoors(3, kind, 10, 8);
            for (int k = 0; k < 6; k++) {
                boolean is = false;
                for (int u : under[kind]) is = is || u == k;
                due("kind " + kind + ": taken(0, " + k + ")", x.taken(0, k), is ? 8 : OTHER_SORT);
            }
            due("taken(0, 6)", x.taken(0, 6), BAD);
            due("taken(0, -1)", x.taken(0, -1), BAD);
            due("taken(1, 0)", x.taken(1, 0), MISSING);
            due("taken(-1, 0)", x.taken(-1, 0), MISSING);
            due("taken(1, 6)", x.taken(1, 6), BAD);
        }
    }
}
