/**
 * Sentence by sentence: each sentence of ../shared/DOC.md that names a boundary case (too small, too large, empty,
 * full, around, refused), with a test of its own. How the rows of calls are written is told in Script.
 */
public final class EdgeTests extends Asking {
    /** The greatest int, as an expression can say it. */
    private static final String GREATEST = "(9999*9999*21+9999*4790+8416)";

    private static int sentences = 0;

    public static void main(String[] args) {
        rooms();
        doors();
        houses();
        refusals();
        opens();
        next();
        tape();
        tokens();
        everyByte();
        grammar();
        ints();
        faults();
        whileFiveAreOpen();
        texts();
        names();
        going();
        toComeTo();
        waysBack();
        rowsOfDoors();
        oilAndThief();
        images();
        sheets();
        callsOnHouses();
        callsOnTexts();
        callsOnGoing();
        callsOnRows();
        callsOnSheets();
        callsOfTheHost();
        theLastCall();
        end("to " + sentences + " sentences");
    }

    private static void says(String sentence, String lines) {
        sentences++;
        Script.run(sentence, lines.replace("GREATEST", GREATEST));
    }

    // ---- Terms, 1

    private static void rooms() {
        says("ROOMS are 0 .. 5", """
            set(3, 0, 6) = 3 | set(2, 0, 5) = 0 | set(2, 0, 6) = -2 | set(2, 0, -1) = -2 | set(2, 0, 0) = 5
            shortest(5) = -1 | shortest(6) = -2 | shortest(-1) = -2
            door(0, 550, 0) = 0 | door(0, 600, 0) = -2 | door(0, 60, 0) = -2
            """);
        says("how many: 1 .. 6; 3 at first", """
            count(0) = 3 | set(3, 0, 0) = -2 | set(3, 0, -1) = -2 | set(3, 0, 7) = -2 | count(0) = 3
            set(3, 0, 1) = 3 | count(0) = 1 | set(2, 0, 1) = -2 | shortest(1) = -2
            set(3, 0, 6) = 1 | count(0) = 6
            """);
    }

    private static void doors() {
        says("DOORS (4 at most, numbered from 0)", """
            told(0, 0) = -2 | door(0, 0, 0) = 0 | door(1, 0, 0) = 1 | door(2, 0, 0) = 2 | door(3, 0, 0) = 3
            door(0, 0, 0) = -4 | count(1) = 4
            told(-1, 0) = -2 | told(0, 0) = 0 | told(3, 0) = 3 | told(4, 0) = -2
            """);
        says("a KIND: 0 DOOR .. 5 LATE", """
            door(-1, 0, 0) = -2 | door(6, 0, 0) = -2 | count(1) = 0
            door(5, 0, 0) = 0 | told(0, 0) = 5 | door(0, 0, 0) = 1 | told(1, 0) = 0
            """);
        says("a KEY (0 .. 3", """
            door(0, 4, 0) = -2 | door(0, 9, 0) = -2 | door(0, -1, 0) = -2 | count(1) = 0
            door(0, 0, 0) = 0 | told(0, 3) = 0 | door(0, 3, 0) = 1 | told(1, 3) = 3
            """);
        says("a KEY: it may be itself", """
            door(1, 0, 0) = 0 | told(0, 5) = 0 | go(0) = -3 | set(0, 0, 1) = 0 | told(0, 5) = 1 | go(0) = 0
            door(4, 1, 0) = 1 | told(1, 5) = 1 | go(1) = 0 | told(1, 4) = 1 | told(1, 5) = 0 | go(1) = -3
            """);
        says("a KEY: or none such", """
            door(1, 3, 0) = 0 | door(4, 3, 0) = 1 | open() = 2
            door(0, 0, 0) = 2 | open() = 6 | door(0, 0, 0) = 3 | open() = 14 | set(0, 3, 1) = 0 | open() = 13
            """);
        says("a NUMBER (0 .. 9)", """
            door(0, 0, -1) = -2 | door(0, 0, 10) = -2 | count(1) = 0
            door(0, 0, 0) = 0 | told(0, 7) = 0 | door(0, 0, 9) = 1 | told(1, 7) = 9
            """);
        says("a STATE (0 .. 3; 0 at first)", """
            door(0, 0, 0) = 0 | told(0, 4) = 0 | set(0, 0, -1) = -2 | set(0, 0, 4) = -2 | told(0, 4) = 0
            set(0, 0, 3) = 0 | told(0, 4) = 3 | set(0, 0, 0) = 3 | told(0, 4) = 0
            """);
    }

    private static void houses() {
        says("THE TURN (0 .. 3; 0 at first)", """
            count(2) = 0 | set(1, 0, -1) = -2 | set(1, 0, 4) = -2 | count(2) = 0
            set(1, 0, 3) = 0 | count(2) = 3 | set(1, 0, 0) = 3 | count(2) = 0
            """);
        says("One is in a ROOM (0 at first)", """
            count(3) = 0 | come(0) = 1 | image() = 0
            """);
    }

    private static void refusals() {
        says("Refusals, the first that the call's words name: BAD ahead of FULL", """
            house 3: 0 0 0, 0 0 0, 0 0 0, 0 0 0
            door(0, 0, 0) = -4 | door(6, 0, 0) = -2 | door(0, 4, 0) = -2 | door(0, 30, 0) = -2 | door(0, 0, 10) = -2
            new
            say "                                                                                                                                                                "
            feed(1, 0) = -4 | feed(0, 0) = -2 | feed(9, 0) = -2
            """);
        says("Refusals, the first that the call's words name: BAD ahead of NONE", """
            first(3, 9) = -2 | first(-1, -1) = -2 | first(2, 9) = -1
            """);
        says("Refusals, the first that the call's words name: BAD ahead of -11", """
            row(0, 2) = -2 | row(0, -1) = -2 | row(0, 1) = -11
            heard(0, 2) = -2 | heard(0, -1) = -2 | heard(0, 1) = -11
            copy(0, 0, 4, 0, 0) = -2 | copy(-1, 0, 0, 0, 0) = -2 | copy(0, 0, 3, 0, 0) = -11
            doors(0, 3, 0, 0) = -2 | doors(0, 0, 0, 5) = -2 | doors(0, 0, 0, 0) = -11
            taken(0, 6) = -2 | taken(0, -1) = -2 | taken(0, 5) = -11
            """);
        says("Refusals, the first that the call's words name: BAD ahead of -14", """
            sheet(4, 0, -1) = -2 | sheet(-1, 0, -1) = -2 | sheet(0, 3, -1) = -2 | sheet(0, -2, -1) = -2 | sheet(0, 2, -1) = -14
            """);
        says("Refusals, the first that the call's words name: -11 ahead of -12", """
            cell(0, -1, 0) = -11 | cell(0, 40, 0) = -11
            lay 1 0: 0
            copy(0, 9, 1, 9, -1) = -11 | copy(1, 9, 0, 9, -1) = -11 | doors(0, 0, 9, 4) = -11
            """);
        says("Refusals, the first that the call's words name: -13 ahead of -12", """
            lay 0 0: 0
            lay 1 1: 0
            copy(0, 9, 1, 9, -1) = -13 | copy(0, 2, 1, 0, 0) = -13 | doors(0, 1, 9, 4) = -13 | doors(0, 0, 9, 4) = -12
            """);
        says("Refusals change nothing", """
            house 3: 0 10 0, 3 120 0
            lay 0 0: 0 1
            go(1) = -3 | go(2) = -2 | set(0, 0, 4) = -2 | set(2, 0, 3) = -2 | set(3, 0, 2) = -2 | force(1) = -2 | back() = -3
            count(0) = 3 | count(1) = 2 | count(2) = 0 | count(3) = 0 | count(6) = 0 | count(7) = 0
            sheet(0, 1, 41) = -2 | sheet(0, 1, -1) = -14 | sheet(0, 3, 1) = -2 | cell(0, 2, 9) = -12 | cell(0, -1, 9) = -12
            copy(0, 0, 0, 1, 2) = -12 | judge(0) = -1 | row(0, 0) = 2 | doors(0, 0, 0, 1) = -12
            thief(0, 4) = -2 | told(0, 4) = 0 | count(1) = 2
            """);
    }

    private static void opens() {
        says("OPENS by its KEY's STATE (0, if there is none such)", """
            door(1, 2, 0) = 0 | told(0, 5) = 0 | door(4, 2, 0) = 1 | told(1, 5) = 1
            set(0, 0, 3) = 0 | set(0, 1, 3) = 0 | told(0, 5) = 0 | told(1, 5) = 1
            """);
        says("DOOR: yes", """
            door(0, 0, 9) = 0 | told(0, 5) = 1 | set(0, 0, 3) = 0 | set(1, 0, 3) = 0 | told(0, 5) = 1
            """);
        says("AFTER: if its KEY's STATE is above 0", """
            house 3: 0 0 0, 1 0 9
            told(1, 5) = 0 | set(0, 1, 3) = 0 | told(1, 5) = 0 | set(0, 0, 1) = 0 | told(1, 5) = 1
            set(0, 1, 0) = 3 | set(0, 0, 3) = 1 | told(1, 5) = 1 | set(0, 0, 0) = 3 | told(1, 5) = 0
            """);
        says("COUNT: if THE TURN is NUMBER modulo 4", """
            house 3: 2 0 0, 2 0 3, 2 0 4, 2 0 7
            open() = 5 | set(1, 0, 1) = 0 | open() = 0 | set(1, 0, 2) = 1 | open() = 0 | set(1, 0, 3) = 2 | open() = 10
            new
            house 3: 2 0 1, 2 0 2, 2 0 8, 2 0 9
            open() = 4 | set(1, 0, 1) = 0 | open() = 9 | set(1, 0, 2) = 1 | open() = 2 | set(1, 0, 3) = 2 | open() = 0
            """);
        says("ONCE: if its own STATE is 0", """
            house 3: 0 0 0, 3 0 9
            set(0, 0, 3) = 0 | told(1, 5) = 1 | go(1) = 0 | told(1, 5) = 0 | go(1) = -3
            set(0, 1, 1) = 3 | told(1, 5) = 0 | set(0, 1, 0) = 1 | told(1, 5) = 1
            """);
        says("NEVER: just if an AFTER would not", """
            house 3: 0 0 0, 4 0 9, 1 0 9
            open() = 3 | set(0, 1, 3) = 0 | open() = 3 | set(0, 0, 1) = 0 | open() = 5 | set(0, 0, 3) = 1 | open() = 5
            """);
        says("LATE: as a COUNT, and its own STATE is below 2", """
            house 3: 5 0 0, 5 0 7
            open() = 1 | set(0, 0, 1) = 0 | open() = 1 | set(0, 0, 2) = 1 | open() = 0 | set(0, 0, 3) = 2 | open() = 0
            set(1, 0, 3) = 0 | open() = 2 | set(0, 1, 1) = 0 | open() = 2 | set(0, 1, 2) = 1 | open() = 0
            """);
        says("None opens of which shut says something (not 0)", """
            house 3: 0 0 0, 4 3 0, 2 0 0, 3 0 0
            open() = 15
            rule "shut 0-1;cost 0;wish 0;"
            open() = 0 | told(0, 5) = 0 | go(0) = -3
            rule "shut 1-1;cost 0;wish 0;"
            open() = 15
            rule "shut 9999;cost 0;wish 0;"
            open() = 0 | come(1) = 1
            """);
    }

    private static void next() {
        says("DOOR: 1 more (3 at most)", """
            door(0, 0, 0) = 0 | told(0, 6) = 1 | go(0) = 0 | told(0, 4) = 1 | told(0, 6) = 2 | go(0) = 0 | told(0, 6) = 3
            go(0) = 0 | told(0, 4) = 3 | told(0, 6) = 3 | go(0) = 0 | told(0, 4) = 3
            """);
        says("NEXT: AFTER as a DOOR", """
            door(1, 0, 0) = 0 | told(0, 6) = 1 | set(0, 0, 2) = 0 | told(0, 6) = 3 | go(0) = 0 | told(0, 4) = 3
            told(0, 6) = 3 | go(0) = 0 | told(0, 4) = 3
            """);
        says("COUNT: 1 more, 0 behind 3", """
            house 3: 2 0 0, 2 0 1
            told(0, 6) = 1 | set(0, 0, 2) = 0 | told(0, 6) = 3 | set(0, 0, 3) = 2 | told(0, 6) = 0 | go(0) = 0 | told(0, 4) = 0
            set(0, 1, 2) = 0 | go(1) = 0 | told(1, 4) = 3
            """);
        says("ONCE: 3", """
            door(3, 0, 0) = 0 | told(0, 6) = 3 | go(0) = 0 | told(0, 4) = 3 | told(0, 6) = 3
            set(0, 0, 1) = 3 | told(0, 6) = 3 | set(0, 0, 2) = 1 | told(0, 6) = 3
            """);
        says("NEVER: an AFTER's, and 0 instead of 3", """
            door(4, 3, 0) = 0 | told(0, 6) = 1 | go(0) = 0 | told(0, 6) = 2 | go(0) = 0 | told(0, 4) = 2 | told(0, 6) = 0
            go(0) = 0 | told(0, 4) = 0 | set(0, 0, 3) = 0 | told(0, 6) = 0 | go(0) = 0 | told(0, 4) = 0
            """);
        says("LATE: a COUNT's, but 2 at most", """
            house 3: 5 0 0, 5 0 1
            told(0, 6) = 1 | set(0, 0, 1) = 0 | told(0, 6) = 2 | go(0) = 0 | told(0, 4) = 2 | told(0, 6) = 2
            set(0, 0, 3) = 2 | told(0, 6) = 0 | go(1) = 0 | told(1, 4) = 1
            """);
    }

    // ---- Terms, 1: texts

    private static void tape() {
        says("THE TAPE (160 bytes at most)", """
            say "                                                                                                                                                         "
            count(5) = 153 | feed(8, 0) = -4 | count(5) = 153 | feed(7, 0) = 160 | count(5) = 160
            feed(1, 0) = -4 | count(5) = 160
            text "                                                shut 0 ;                                        cost 0 ;                                        wish 0 ;        " = 1
            text "                                                shut 0 ;                                        cost 0 ;                                        wish 0         " = -259
            text "                                                shut 0 ;                                        cost 0 ;                                        wish 0          " = -260
            """);
    }

    private static void tokens() {
        says("TOKENS, each as long as can be: WORDS", """
            text "shut doorstate;cost 0;wish 0;" = -105
            text "shut door state;cost 0;wish 0;" = -110
            text "shut notdoor;cost 0;wish 0;" = -105
            text "shutdoor;cost 0;wish 0;" = -100
            text "shut 1orroom;cost 0;wish 0;" = -106
            text "shut0;cost1or2;wish3and4;" = 1
            """);
        says("TOKENS, each as long as can be: NUMBERS", """
            text "shut 00001;cost 0;wish 0;" = -105
            text "shut 1 2;cost 0;wish 0;" = -107
            text "shut 1door;cost 0;wish 0;" = -106
            worth "12" = 12
            worth "1+2" = 3
            """);
        says("WORDS (a .. z)", """
            text "shut `door;" = -105
            text "shut {door;" = -105
            text "shut door`;" = -109
            text "shut door{;" = -109
            text "shut Door;" = -105
            text "shut dOor;" = -105
            text "shut zdoor;" = -105
            text "shut adoor;" = -105
            text "shut doorz;" = -105
            text "shut doora;" = -105
            """);
        says("NUMBERS (as many digits as stand there, 4 at most)", """
            worth "0" = 0
            worth "0009" = 9
            worth "0000" = 0
            worth "9999 = 9998 + 1" = 1
            text "shut 9999;cost 0;wish 0;" = 1
            text "shut 10000;cost 0;wish 0;" = -105
            text "shut 00000;cost 0;wish 0;" = -105
            text "shut 0;cost 4+99999999999;wish 0;" = -114
            text "shut /;" = -105
            text "shut :;" = -105
            text "shut 1/;" = -106
            text "shut 9:;" = -106
            """);
        says("SIGNS ( ) ; + - * < =", """
            text "shut(1)+2-3*4<5;cost(1)=2;wish-1;" = 1
            text "shut 1>2;" = -106
            text "shut 1,2;" = -106
            text "shut 1.2;" = -106
            text "shut [1];" = -105
            text "shut 1!;" = -106
            """);
        says("blanks (32, 10) may stand between", """
            text "%0A shut%0A%0A0 %0A;cost%0A0%0A;%0Awish%0A0;%0A" = 1
            text "shut%090;cost 0;wish 0;" = -104
            text "shut%0D0;cost 0;wish 0;" = -104
            text "shut%0B0;cost 0;wish 0;" = -104
            text "shut%1F0;cost 0;wish 0;" = -104
            text "shut%A00;cost 0;wish 0;" = -104
            text "sh ut 0;cost 0;wish 0;" = -100
            text "shut 1%0A2;cost 0;wish 0;" = -107
            """);
    }

    /** Each byte behind a number: it goes on with it, is blank, is a sign that may stand there, or is the fault. */
    private static void everyByte() {
        sentences++;
        for (int b = 0; b < 256; b++) {
            boolean goesOn = b >= '0' && b <= '9' || b == ' ' || b == '\n' || b != 0 && ";+-*<=".indexOf(b) >= 0;
            due("[a byte that begins none] text() of \"shut 0\" and byte " + b, read("shut 0" + (char) b), goesOn ? -107 : -106);
        }
    }

    private static void grammar() {
        says("TEXT: shut E ; cost E ; wish E ;", """
            text "shut 0;cost 0;wish 0;" = 1
            text "cost 0;shut 0;wish 0;" = -100
            text "shut 0;wish 0;cost 0;" = -107
            text "shut 0;cost 0;shut 0;" = -114
            text "shut 0 cost 0;wish 0;" = -107
            text "shut 0;cost 0;wish 0" = -120
            text "shut 0;cost 0;" = -114
            text "shut ;cost 0;wish 0;" = -105
            text "shut 0;cost 0;wish 0;;" = -121
            text "shut 0;cost 0;wish 0;shut 0;" = -121
            """);
        says("E: AND { or AND }", """
            worth "0 or 0" = 0
            worth "0 or 0 or 5" = 1
            worth "1 or 1 and 0" = 1
            worth "(1 or 1) and 0" = 0
            text "shut or 1;cost 0;wish 0;" = -105
            text "shut 1 or;cost 0;wish 0;" = -109
            text "shut 1 or or 1;cost 0;wish 0;" = -110
            """);
        says("AND: NOT { and NOT }", """
            worth "5 and 7" = 1
            worth "5 and 7 and 0" = 0
            worth "not 0 and 0" = 0
            worth "not (0 and 0)" = 1
            text "shut and 1;cost 0;wish 0;" = -105
            text "shut 1 and;cost 0;wish 0;" = -110
            text "shut 1 and or 1;cost 0;wish 0;" = -111
            """);
        says("NOT: not NOT, or SUM, perhaps < or = and a SUM", """
            worth "not not 7" = 1
            worth "not 0 = 2" = 1
            worth "not 3 < 2" = 1
            worth "not 0 + 1" = 0
            worth "1 + 1 = 2" = 1
            worth "1 < 1 + 1" = 1
            text "shut 1 < 2 < 3;cost 0;wish 0;" = -111
            text "shut 1 = 1 = 1;cost 0;wish 0;" = -111
            text "shut 1 <;cost 0;wish 0;" = -108
            text "shut 1 < = 2;cost 0;wish 0;" = -109
            text "shut 1 = not 2;cost 0;wish 0;" = -109
            text "shut 1 + not 2;cost 0;wish 0;" = -109
            text "shut - not 2;cost 0;wish 0;" = -107
            """);
        says("SUM: TERM { + or - TERM }", """
            worth "9 - 3 - 2" = 4
            worth "9 - (3 - 2)" = 8
            worth "9 - 3 + 2" = 8
            text "shut + 1;cost 0;wish 0;" = -105
            text "shut 1 +;cost 0;wish 0;" = -108
            text "shut 1 + + 1;cost 0;wish 0;" = -109
            """);
        says("TERM: ONE { * ONE }", """
            worth "2 * 3 * 4" = 24
            worth "1 + 2 * 3" = 7
            worth "2 * 3 + 1" = 7
            worth "2 * -3 * -4" = 24
            text "shut * 1;cost 0;wish 0;" = -105
            text "shut 1 *;cost 0;wish 0;" = -108
            text "shut 1 * * 1;cost 0;wish 0;" = -109
            """);
        says("ONE: a NUMBER, a NAME, - ONE, ( E )", """
            worth "- -7" = 7
            worth "3 - -4" = 7
            worth "-(-7)" = 7
            worth "(((7)))" = 7
            worth "(0 or 7)" = 1
            text "shut ();cost 0;wish 0;" = -106
            text "shut (1;cost 0;wish 0;" = -107
            text "shut 1);cost 0;wish 0;" = -106
            text "shut -;cost 0;wish 0;" = -106
            text "shut (1) (2);cost 0;wish 0;" = -109
            text "shut door 1;cost 0;wish 0;" = -110
            """);
        says("NAMES are door state turn room key other; shut, cost, wish, or, and, not are KEYS", """
            text "shut door;cost state;wish turn;" = 1
            text "shut room;cost key;wish other;" = 1
            text "shut shut;cost 0;wish 0;" = -105
            text "shut cost;cost 0;wish 0;" = -105
            text "shut wish;cost 0;wish 0;" = -105
            text "shut or;cost 0;wish 0;" = -105
            text "shut and;cost 0;wish 0;" = -105
            text "shut 0;cost not;wish 0;" = -115
            text "door 0;cost 0;wish 0;" = -100
            """);
    }

    private static void ints() {
        says("An E is an int (32 bits, wrapping)", """
            worth "0 < GREATEST" = 1
            worth "GREATEST + 1 < 0" = 1
            worth "-GREATEST - 2 = GREATEST" = 1
            worth "GREATEST * 2 = -2" = 1
            worth "-(-GREATEST - 1) < 0" = 1
            worth "-(-GREATEST) = GREATEST" = 1
            worth "-GREATEST - 1 < GREATEST" = 1
            worth "9999 * 9999 * 9999 < 0" = 1
            """);
        says("of or, and, not, <, = 1 or 0", """
            worth "(5 or 7) + 1" = 2
            worth "(0 or 0) + 1" = 1
            worth "(5 and 7) + 1" = 2
            worth "(5 and 0) + 1" = 1
            worth "(not 0) + 1" = 2
            worth "(not 9) + 1" = 1
            worth "(1 < 9) + 1" = 2
            worth "(9 < 9) + 1" = 1
            worth "(9 = 9) + 1" = 2
            worth "(9 = 8) + 1" = 1
            """);
        says("what is not 0 is true", """
            worth "-1 or 0" = 1
            worth "0 or -1" = 1
            worth "-1 and -2" = 1
            worth "not -1" = 0
            worth "not 2" = 0
            worth "2 and 4" = 1
            """);
    }

    private static void faults() {
        says("FAULT: the place of the first byte of the first TOKEN that can't stand there", """
            text "shut 0;   room 0;wish 0;" = -110
            text "shut 1   other;cost 0;wish 0;" = -109
            text "shut 1   1234;cost $;wish 0;" = -109
            text "shut 1 2 $;" = -107
            text "0" = -100
            text " 0" = -101
            """);
        says("FAULT: the text's size, if it ends too early", """
            text "" = -100
            text "   " = -103
            text "shut" = -104
            text "shut 0" = -106
            text "shut 0;" = -107
            text "shut 0;cost 1+" = -114
            text "shut 0;cost (1  " = -116
            text "shut 0;cost 1;wish 0" = -120
            text "shut not" = -108
            """);
        says("FAULT: also of a byte that begins none", """
            text "shut 0;cost 1%FF;" = -113
            text "shut 0;cost 1%80;" = -113
            text "%00shut 0;cost 1;wish 0;" = -100
            text "shut 0;cost 1;wish 0;%00" = -121
            text "shut 0;cost 1;wish 0;  ?" = -123
            """);
        says("FAULT: a WORD that is neither KEY nor NAME", """
            text "shut doors;" = -105
            text "shut doo;" = -105
            text "shut d;" = -105
            text "shut 0;cost 1 orr 0;" = -114
            text "shut 0;cost 1 o 0;" = -114
            text "shut 0;cost 1;wishes 0;" = -114
            text "hut 0;" = -100
            text "shut turnturn;" = -105
            """);
        says("FAULT: a NUMBER that is too long", """
            text "shut 12345;" = -105
            text "shut 1234567890123456789;" = -105
            text "shut 1 + 00000 * 2;" = -109
            text "shut 0;cost 1 99999" = -114
            """);
    }

    private static void whileFiveAreOpen() {
        says("FAULT: a ( while 5 of these are open", """
            text "shut (((((1)))));cost 0;wish 0;" = 1
            text "shut ((((((1))))));cost 0;wish 0;" = -110
            text "shut not not not not not (1);cost 0;wish 0;" = -125
            text "shut -----(1);cost 0;wish 0;" = -110
            text "shut 0;cost 0;wish not not -(-((1)));" = -130
            """);
        says("FAULT: a not while 5 of these are open", """
            text "shut not not not not not 1;cost 0;wish 0;" = 1
            text "shut not not not not not not 1;cost 0;wish 0;" = -125
            text "shut (((((not 1)))));cost 0;wish 0;" = -110
            text "shut -(-(-not 1));cost 0;wish 0;" = -110
            text "shut -(-(not 1));cost 0;wish 0;" = 1
            text "shut -(-((not 1)));cost 0;wish 0;" = -110
            """);
        says("FAULT: a - ahead of a ONE while 5 of these are open", """
            text "shut -----1;cost 0;wish 0;" = 1
            text "shut ------1;cost 0;wish 0;" = -110
            text "shut (((((-1)))));cost 0;wish 0;" = -110
            text "shut not not not not not -1;cost 0;wish 0;" = -125
            text "shut (((((2-1)))));cost 0;wish 0;" = 1
            text "shut -----1-1;cost 0;wish 0;" = 1
            text "shut ((((2-(1)))));cost 0;wish 1------1;" = 1
            text "shut 0;cost 0;wish 1-------1;" = -126
            """);
        says("a ( till its )", """
            text "shut (1)+(1)+(1)+(1)+(1)+(1)+(1);cost 0;wish 0;" = 1
            text "shut (((((1))))*(1))*(((((1)))));cost 0;wish 0;" = 1
            text "shut (((((1)+(1)))));cost 0;wish 0;" = 1
            text "shut (((((1+(1))))));cost 0;wish 0;" = -112
            text "shut (((((1))))+((1)));cost 0;wish 0;" = 1
            text "shut (((((1))))+(((((1);cost 0;wish 0;" = -120
            """);
        says("not till what it belongs to ends", """
            text "shut not 1 and not 1 and not 1 and not 1 and not 1 and not 1;cost 0;wish 0;" = 1
            text "shut not 1 or not 1 or not 1 or not 1 or not 1 or not 1;cost 0;wish 0;" = 1
            text "shut not not not not not 1 and (1);cost 0;wish 0;" = 1
            text "shut not not not not not 1 + (1);cost 0;wish 0;" = -129
            text "shut not not not not not 1 < -1;cost 0;wish 0;" = -129
            text "shut not not not not not 1 * (1);cost 0;wish 0;" = -129
            """);
        says("- till what it belongs to ends", """
            text "shut -1+-1+-1+-1+-1+-1+-1;cost 0;wish 0;" = 1
            text "shut -1*-1*-1*-1*-1*-1*-1;cost 0;wish 0;" = 1
            text "shut -----1*(1);cost 0;wish 0;" = 1
            text "shut -----1+-----1;cost 0;wish not not not not not 1;" = 1
            text "shut -(1+-(1+-1));cost 0;wish 0;" = 1
            text "shut -(1+-(1+--1));cost 0;wish 0;" = -114
            """);
    }

    private static void texts() {
        says("There are 6 TEXTS at most, TEXT 0 with them", """
            count(4) = 1 | force(0) = 0 | force(1) = -2
            say "shut 0;cost 0;wish 0;"
            text() = 1
            say "shut 0;cost 0;wish 0;"
            text() = 2
            say "shut 0;cost 0;wish 0;"
            text() = 3
            say "shut 0;cost 0;wish 0;"
            text() = 4
            say "shut 0;cost 0;wish 0;"
            text() = 5 | count(4) = 6 | force(5) = 0
            say "shut 0;cost 0;wish 0;"
            text() = -4 | count(4) = 6 | force(6) = -2 | count(6) = 5
            """);
        says("cost: 0 .. 99, else the bound", """
            worth "0" = 0
            worth "99" = 99
            worth "100" = 99
            worth "-1" = 0
            worth "GREATEST" = 99
            worth "-GREATEST - 1" = 0
            house 3: 0 0 0
            rule "shut 0;cost 100;wish 0;"
            lay 0 0: 0 0
            row(0, 0) = 198
            """);
        says("wish: not 0", """
            rule "shut 0;cost 0;wish -1;"
            well() = 1 | wished() = 0
            rule "shut 0;cost 0;wish 7;"
            well() = 1
            rule "shut 0;cost 0;wish 1-1;"
            well() = 0 | wished() = -1
            """);
        says("wish: of one who is in a ROOM: door 0, state all STATES together, key 0, other 0", """
            house 3: 0 121 0, 0 121 0, 0 121 0, 0 121 0
            set(2, 0, 2) = 0 | set(0, 0, 3) = 0 | set(0, 1, 3) = 0 | set(0, 2, 3) = 0 | set(0, 3, 3) = 0
            rule "shut 0;cost 0;wish door;"
            well() = 0
            rule "shut 0;cost 0;wish key;"
            well() = 0
            rule "shut 0;cost 0;wish other;"
            well() = 0
            rule "shut 0;cost 0;wish state=12;"
            well() = 1
            new
            rule "shut 0;cost 0;wish state=0 and room=0 and turn=0;"
            well() = 1 | set(1, 0, 3) = 0 | well() = 0
            """);
        says("TEXT 0, at first THE RULE, is: shut 0 ; cost 1 + state ; wish room = 2 ;", """
            count(6) = 0 | well() = 0 | set(2, 0, 2) = 0 | well() = 1 | set(2, 0, 1) = 2 | well() = 0
            door(0, 110, 0) = 0 | open() = 1
            lay 0 0: 0 0 0 0 0
            row(0, 0) = 14
            """);
    }

    private static void names() {
        says("door: its number", """
            house 3: 0 0 1, 0 0 0, 0 0 3, 0 0 0
            rule "shut door=0 or door=3;cost 0;wish 0;"
            open() = 6
            """);
        says("state: its STATE; turn: THE TURN", """
            house 3: 0 0 0, 0 0 0
            rule "shut state = 3 or turn = 3;cost 0;wish 0;"
            open() = 3 | set(0, 1, 3) = 0 | open() = 1 | set(0, 1, 2) = 3 | open() = 3 | set(1, 0, 3) = 0 | open() = 0
            """);
        says("room: that ROOM; other: the ROOM beyond", """
            house 6: 0 50 0, 0 500 0, 0 550 0
            rule "shut room=0 and other=5;cost 0;wish 0;"
            open() = 0 | told(0, 5) = 0 | told(1, 5) = 1 | told(2, 5) = 1 | set(2, 0, 5) = 0 | open() = 7
            rule "shut room=5 and other=5;cost 0;wish 0;"
            open() = 3
            """);
        says("key: its KEY's STATE", """
            house 3: 0 2 0, 0 1 0
            rule "shut key;cost 0;wish 0;"
            open() = 3 | set(0, 0, 3) = 0 | open() = 3 | set(0, 1, 1) = 0 | open() = 1 | door(0, 0, 0) = 2 | set(0, 2, 1) = 0 | open() = 0
            """);
    }

    // ---- Terms, 2

    private static void going() {
        says("ONE GOES through a DOOR of which the ROOM where one is is one", """
            house 4: 0 120 0
            go(0) = -3 | set(2, 0, 3) = 0 | go(0) = -3 | count(2) = 0 | told(0, 4) = 0
            set(2, 0, 1) = 3 | go(0) = 2 | go(0) = 1
            """);
        says("if it OPENS", """
            house 3: 3 10 0
            go(0) = 1 | go(0) = -3 | count(3) = 1 | count(2) = 1 | told(0, 4) = 3
            """);
        says("its STATE becomes NEXT", """
            house 3: 0 10 0, 0 0 0
            go(0) = 1 | told(0, 4) = 1 | told(1, 4) = 0 | go(0) = 0 | told(0, 4) = 2 | go(1) = 0 | told(1, 4) = 1 | told(0, 4) = 2
            """);
        says("THE TURN 1 more (0 behind 3)", """
            house 3: 0 0 0
            go(0) = 0 | count(2) = 1 | go(0) = 0 | count(2) = 2 | go(0) = 0 | count(2) = 3 | go(0) = 0 | count(2) = 0
            """);
        says("one is in the other ROOM (in the same one, if both are one)", """
            house 6: 0 50 0, 0 550 0
            go(0) = 5 | count(3) = 5 | go(1) = 5 | count(3) = 5 | go(0) = 0 | count(3) = 0
            """);
    }

    private static void toComeTo() {
        says("TO COME TO: by rows of DOORS gone through from now: ROOMS; SITUATIONS, how many", """
            come(0) = 1 | come(1) = 1 | set(2, 0, 2) = 0 | come(0) = 4 | come(1) = 1
            new
            house 6: 3 10 0, 3 150 0
            come(0) = 35 | come(1) = 3 | set(2, 0, 5) = 0 | come(0) = 35 | come(1) = 3 | set(2, 0, 4) = 5 | come(0) = 16
            new
            house 6: 0 550 0, 0 550 0, 0 550 0, 0 550 0
            set(2, 0, 5) = 0 | set(1, 0, 3) = 0 | set(0, 0, 3) = 0 | set(0, 1, 3) = 0 | set(0, 2, 3) = 0 | set(0, 3, 3) = 0
            come(0) = 32 | come(1) = 4
            """);
        says("SHORTEST to a ROOM: the fewest DOORS (0: one is there)", """
            shortest(0) = 0 | shortest(1) = -1 | set(2, 0, 2) = 0 | shortest(2) = 0 | shortest(0) = -1
            new
            house 6: 0 10 0, 0 120 0, 0 250 0, 0 20 0
            shortest(0) = 0 | shortest(2) = 1 | shortest(5) = 2 | shortest(4) = -1
            """);
        says("the FIRST such row (by DOORS, as numbers)", """
            house 4: 0 230 0, 0 10 0, 0 20 0, 0 130 0
            first(3, 0) = 1 | first(3, 1) = 3 | first(3, 2) = -1 | first(0, 0) = -1
            new
            house 3: 0 120 0, 0 10 0, 0 10 0, 0 120 0
            first(2, 0) = 1 | first(2, 1) = 0 | first(1, 0) = 1
            """);
        says("SHUT IN: ROOMS in which one is in some SITUATION that can be come to, from which a told ROOM can't be come to", """
            shutIn(0) = 0 | shutIn(1) = 1
            new
            house 4: 3 10 0, 0 120 0
            shutIn(0) = 6 | shutIn(1) = 0 | shutIn(2) = 0 | shutIn(3) = 7
            new
            house 3: 3 20 0, 4 20 0
            shutIn(2) = 1 | shutIn(0) = 4
            """);
        says("FARTHEST: the greatest of SHORTEST to SITUATIONS that can be come to", """
            come(2) = 0
            house 3: 3 10 0
            come(2) = 1 | door(0, 110, 0) = 1 | come(2) = 7 | set(2, 0, 2) = 0 | come(2) = 0
            """);
        says("WISHED: the fewest DOORS to a SITUATION in which it is well", """
            wished() = -1
            house 3: 0 10 0, 0 120 0
            wished() = 2 | set(2, 0, 1) = 0 | wished() = 1 | set(2, 0, 2) = 1 | wished() = 0
            rule "shut 0;cost 0;wish state=6 and turn=3;"
            set(2, 0, 0) = 2 | wished() = 7
            """);
        says("LAST: in how many SITUATIONS that can be come to no DOOR of that ROOM OPENS", """
            come(3) = 1 | door(0, 110, 0) = 0 | come(3) = 1 | set(2, 0, 1) = 0 | come(3) = 0
            new
            house 4: 3 10 0, 3 120 0, 3 130 0
            come(3) = 2 | go(0) = 1 | go(2) = 3 | come(3) = 1
            """);
    }

    private static void waysBack() {
        says("AS FOUND: the fewest DOORS, 1 or more, behind which THE HOUSE is as it is now", """
            house 3: 0 0 0
            found() = -1 | set(0, 0, 2) = 0 | found() = -1 | set(0, 0, 3) = 2 | found() = 4 | set(1, 0, 3) = 0 | found() = 4
            new
            house 3: 4 3 0
            found() = 12
            new
            house 3: 2 0 0, 2 0 1, 2 0 2, 2 0 3
            found() = 16
            """);
        says("AS FOUND: and one is where one is; NONE", """
            found() = -1
            house 5: 0 10 0, 0 120 0, 0 230 0, 0 340 0
            set(0, 0, 3) = 0 | set(0, 1, 3) = 0 | set(0, 2, 3) = 0 | set(0, 3, 3) = 0
            found() = 4
            rule "shut other < room;cost 0;wish 0;"
            found() = -1 | shortest(4) = 4
            """);
    }

    private static void rowsOfDoors() {
        says("JUDGED: the first place at which it is no DOOR of that ROOM, or doesn't open; NONE", """
            house 3: 0 10 0, 3 120 0
            lay 0 0:
            judge(0) = -1
            lay 0 0: 1
            judge(0) = 0
            lay 0 0: 2
            judge(0) = 0
            lay 0 0: -1
            judge(0) = 0
            lay 0 0: 0
            judge(0) = -1
            lay 0 0: 0 1 0
            judge(0) = 2
            lay 0 0: 0 1 1
            judge(0) = 2
            lay 0 0: 0 0 0 0 1
            judge(0) = 4
            lay 0 0: 0 0 0 0 0
            judge(0) = -1
            """);
        says("COSTS: of all cost ahead of that", """
            house 3: 0 10 0, 3 120 0
            lay 0 0:
            row(0, 0) = 0
            lay 0 0: 1 0
            row(0, 0) = 0
            lay 0 0: 0 1 1 1
            row(0, 0) = 2
            lay 0 0: 0 0 0 0 0 0
            row(0, 0) = 18
            """);
        says("WHERE one is then", """
            house 3: 0 10 0, 3 120 0
            lay 0 0:
            row(0, 1) = 0 | set(2, 0, 2) = 0 | row(0, 1) = 2 | set(2, 0, 0) = 2
            lay 0 0: 1 0
            row(0, 1) = 0
            lay 0 0: 0 1 1 0
            row(0, 1) = 2
            lay 0 0: 0 1
            row(0, 1) = 2 | count(3) = 0
            """);
        says("HEARD: ROOMS (bits) in which one could have begun, THE HOUSE being as it is now", """
            heard(0, 0) = -11
            house 6: 3 10 0, 0 150 0
            lay 0 0:
            heard(0, 0) = 63
            lay 0 0: 0
            heard(0, 0) = 3 | set(0, 0, 1) = 0 | heard(0, 0) = 0
            lay 0 0: 1
            heard(0, 0) = 34
            lay 0 0: 1 2
            heard(0, 0) = 0
            """);
        says("HEARD: and in how many of all SITUATIONS (STATES 0 .. 3 of each DOOR, TURNS, ROOMS) one could", """
            lay 0 0:
            heard(0, 1) = 12 | set(3, 0, 1) = 3 | heard(0, 1) = 4
            new
            house 6: 0 0 0, 0 0 0, 0 0 0, 0 0 0
            lay 0 0:
            heard(0, 1) = 6144
            lay 0 0: 0
            heard(0, 1) = 1024
            lay 0 0: 4
            heard(0, 1) = 0
            new
            house 6: 5 550 3
            lay 0 0: 0
            heard(0, 1) = 2
            set(0, 0, 3) = 0 | heard(0, 0) = 0 | heard(0, 1) = 2
            """);
    }

    private static void oilAndThief() {
        says("OILED: the DOOR that, were it of KIND 0, would let one come to most ROOMS", """
            house 6: 0 10 0, 1 11 0, 1 122 0, 1 232 0
            oil() = 2 | told(2, 0) = 1 | told(2, 5) = 0 | come(0) = 3
            """);
        says("OILED: of like ones the first; NONE: there are no DOORS", """
            oil() = -1
            house 3: 0 110 0
            oil() = 0 | door(0, 110, 0) = 1 | oil() = 0 | door(1, 12, 0) = 2 | door(1, 23, 0) = 3 | oil() = 2
            """);
        says("A THIEF: if STATE of a DOOR were another (0 .. 3): how many ROOMS one could come to", """
            house 3: 1 10 0, 3 120 0
            thief(0, 3) = 3 | thief(0, 1) = 3 | thief(1, 3) = 1 | thief(0, 4) = -2 | thief(0, -1) = -2
            set(0, 0, 3) = 0 | thief(0, 0) = 1 | thief(0, 3) = 3 | thief(1, 3) = 2 | told(0, 4) = 3 | told(1, 4) = 0
            """);
    }

    private static void images() {
        says("AN IMAGE keeps STATES, THE TURN, the ROOM where one is, THE RULE", """
            house 6: 0 50 0, 0 550 0
            set(0, 1, 3) = 0 | set(1, 0, 3) = 0 | set(2, 0, 5) = 0
            rule "shut 0;cost 0;wish 1;"
            image() = 5
            set(0, 0, 3) = 0 | set(0, 1, 0) = 3 | set(1, 0, 0) = 3 | set(2, 0, 0) = 5 | force(0) = 1
            back() = 5 | told(0, 4) = 0 | told(1, 4) = 3 | count(2) = 3 | count(3) = 5 | count(6) = 1 | well() = 1
            """);
        says("AN IMAGE: DOORS that came since stay; ROOMS stay", """
            image() = 0
            house 6: 0 0 0, 0 0 0, 0 0 0, 0 0 0
            set(0, 0, 3) = 0 | set(0, 3, 2) = 0
            back() = 0 | count(0) = 6 | count(1) = 4 | told(0, 4) = 3 | told(3, 4) = 2
            """);
    }

    // ---- Terms, 3

    private static void sheets() {
        says("SHEETS 0 .. 3", """
            sheet(-1, 0, 1) = -2 | sheet(4, 0, 1) = -2 | sheet(0, 0, 1) = 1 | sheet(3, 0, 1) = 1
            cell(-1, 0, 0) = -2 | cell(4, 0, 0) = -2 | judge(-1) = -2 | judge(4) = -2 | judge(0) = 0 | judge(3) = 0
            """);
        says("SHEETS are missing (as all are at first)", """
            judge(0) = -11 | judge(1) = -11 | judge(2) = -11 | judge(3) = -11
            cell(3, 0, 0) = -11 | row(3, 0) = -11 | heard(3, 0) = -11 | copy(3, 0, 3, 0, 0) = -11 | doors(3, 0, 0, 0) = -11
            """);
        says("of sort 0 bytes, 1 shorts, 2 ints", """
            sheet(0, -2, 3) = -2 | sheet(0, 3, 3) = -2 | judge(0) = -11
            lay 0 0: 0
            doors(0, 0, 0, 0) = 0 | doors(0, 1, 0, 0) = -13 | doors(0, 2, 0, 0) = -13
            lay 0 1: 0
            doors(0, 0, 0, 0) = -13 | doors(0, 1, 0, 0) = 0 | doors(0, 2, 0, 0) = -13
            lay 0 2: 0
            doors(0, 0, 0, 0) = -13 | doors(0, 1, 0, 0) = -13 | doors(0, 2, 0, 0) = 0
            """);
    }

    // ---- Promises 1 to 5

    private static void callsOnHouses() {
        says("Promise 1: Three ROOMS, no DOORS", """
            count(0) = 3 | count(1) = 0 | open() = 0 | told(0, 0) = -2 | go(0) = -2 | shortest(2) = -1 | shortest(3) = -2
            count(2) = 0 | count(3) = 0 | count(4) = 1 | count(5) = 0 | count(6) = 0 | count(7) = 0
            """);
        says("Promise 2: where: 100 times the one ROOM, 10 times the other one, and KEY", """
            set(3, 0, 6) = 3
            door(0, 523, 0) = 0 | told(0, 1) = 5 | told(0, 2) = 2 | told(0, 3) = 3
            door(0, 3, 0) = 1 | told(1, 1) = 0 | told(1, 2) = 0 | told(1, 3) = 3
            """);
        says("Promise 2: BAD", """
            door(-1, 0, 0) = -2 | door(6, 0, 0) = -2 | door(0, 0, -1) = -2 | door(0, 0, 10) = -2
            door(0, -1, 0) = -2 | door(0, -10, 0) = -2 | door(0, -100, 0) = -2 | door(0, 4, 0) = -2 | door(0, 30, 0) = -2
            door(0, 300, 0) = -2 | door(0, 1000, 0) = -2 | door(0, 2147483647, 0) = -2 | door(0, -2147483648, 0) = -2
            count(1) = 0 | door(0, 222, 0) = 0 | set(3, 0, 6) = 3 | door(0, 300, 0) = 1 | door(0, 50, 0) = 2
            """);
        says("Promise 2: FULL", """
            house 3: 0 0 0, 0 0 0, 0 0 0, 0 0 0
            door(0, 0, 0) = -4 | door(5, 223, 9) = -4 | count(1) = 4
            """);
        says("Promise 3: become v: what it was", """
            house 3: 0 0 0, 0 0 0
            set(0, 1, 3) = 0 | set(0, 1, 3) = 3 | set(0, 1, 0) = 3 | told(0, 4) = 0
            set(1, 0, 3) = 0 | set(1, 0, 0) = 3 | set(2, 0, 2) = 0 | set(2, 0, 0) = 2 | set(3, 0, 6) = 3 | set(3, 0, 1) = 6
            """);
        says("Promise 3: by 1 .. 3 of does not matter", """
            set(1, -1, 2) = 0 | set(1, 2147483647, 0) = 2 | set(2, -2147483648, 1) = 0 | set(2, 9, 0) = 1
            set(3, -1, 2) = 3 | set(3, 4, 3) = 2
            """);
        says("Promise 3: BAD", """
            set(-1, 0, 0) = -2 | set(4, 0, 0) = -2 | set(0, 0, 0) = -2 | door(0, 0, 0) = 0
            set(0, -1, 0) = -2 | set(0, 1, 0) = -2 | set(0, 0, -1) = -2 | set(0, 0, 4) = -2
            set(1, 0, -1) = -2 | set(1, 0, 4) = -2 | set(2, 0, -1) = -2 | set(2, 0, 3) = -2 | set(3, 0, 0) = -2 | set(3, 0, 7) = -2
            count(0) = 3 | count(2) = 0 | count(3) = 0 | count(7) = 0
            """);
        says("Promise 3: BAD (also: a DOOR is in a ROOM that would be none)", """
            house 6: 0 400 0
            set(3, 0, 4) = -2 | count(0) = 6 | set(3, 0, 5) = 6
            new
            house 6: 0 0 0, 0 40 0, 0 0 0
            set(3, 0, 4) = -2 | count(0) = 6 | set(3, 0, 5) = 6
            """);
        says("Promise 3: BAD (also: one is in a ROOM that would be none)", """
            set(2, 0, 2) = 0 | set(3, 0, 2) = -2 | set(3, 0, 1) = -2 | count(0) = 3 | set(3, 0, 3) = 3
            set(2, 0, 1) = 2 | set(3, 0, 2) = 3 | set(3, 0, 1) = -2 | set(2, 0, 0) = 1 | set(3, 0, 1) = 2
            """);
        says("Promise 4: from its first ROOM", """
            house 3: 0 120 0
            rule "shut room = 1;cost 0;wish 0;"
            told(0, 5) = 0 | set(2, 0, 2) = 0 | told(0, 5) = 0 | open() = 1
            rule "shut room = 2;cost 0;wish 0;"
            told(0, 5) = 1 | open() = 0
            """);
        says("Promise 4: BAD", """
            told(0, 0) = -2 | door(3, 121, 4) = 0 | told(-1, 0) = -2 | told(1, 0) = -2 | told(0, -1) = -2 | told(0, 8) = -2
            told(0, 0) = 3 | told(0, 7) = 4 | told(2147483647, 0) = -2 | told(-2147483648, 0) = -2
            """);
        says("Promise 5: DOORS (bits) of the ROOM where one is that OPEN now", """
            open() = 0
            house 3: 0 10 0, 3 20 0, 0 120 0, 0 0 0
            open() = 11 | set(2, 0, 1) = 0 | open() = 5 | set(2, 0, 2) = 1 | open() = 6 | set(0, 1, 3) = 0 | open() = 4
            """);
    }

    // ---- Promises 6 to 9

    private static void callsOnTexts() {
        says("Promise 6: The n lowest bytes of a number, the lowest first", """
            feed(5, 0x3030307475687320) = 5 | feed(1, 0x2020) = 6 | feed(2, 0x203B30) = 8
            feed(8, 0x3B302074736F6320) = 16 | feed(7, 0x7F3B302068736977) = 23 | text() = 1
            new
            feed(8, -1) = 8 | text() = -100
            """);
        says("Promise 6: BAD: n is not 1 .. 8", """
            feed(0, 0) = -2 | feed(9, 0) = -2 | feed(-1, 0) = -2 | feed(2147483647, 0) = -2 | feed(-2147483648, 0) = -2
            count(5) = 0 | feed(1, 0) = 1 | feed(8, 0) = 9
            """);
        says("Promise 6: FULL", """
            say "                                                                                                                                                               "
            count(5) = 159 | feed(2, 0) = -4 | feed(8, 0) = -4 | count(5) = 159 | feed(1, 0) = 160 | feed(1, 0) = -4 | count(5) = 160
            text() = -259 | count(5) = 0 | feed(8, 0) = 8
            """);
        says("Promise 7: THE TAPE, which is empty then (by a FAULT, too)", """
            say "shut 0;cost 0;wish 0;"
            count(5) = 21 | text() = 1 | count(5) = 0 | text() = -100
            say "shut 0;cost 0;wish"
            text() = -118 | count(5) = 0 | count(4) = 2
            say "shut 0;cost 0;wish 0;"
            text() = 2 | count(4) = 3
            """);
        says("Promise 7: FULL (ahead of all): no TEXT more has room (THE TAPE stays)", """
            rule "shut 0;cost 0;wish 0;"
            rule "shut 0;cost 0;wish 0;"
            rule "shut 0;cost 0;wish 0;"
            rule "shut 0;cost 0;wish 0;"
            rule "shut 0;cost 0;wish 0;"
            text() = -4
            say "shut ?"
            text() = -4 | count(5) = 6 | count(4) = 6 | feed(1, 0) = 7
            """);
        says("Promise 8: A TEXT is THE RULE: which was", """
            force(0) = 0
            say "shut 0;cost 0;wish 1;"
            text() = 1 | count(6) = 0 | force(1) = 0 | count(6) = 1 | force(1) = 1 | force(0) = 1 | count(6) = 0
            """);
        says("Promise 8: BAD", """
            force(-1) = -2 | force(1) = -2 | force(6) = -2 | force(2147483647) = -2 | force(-2147483648) = -2 | count(6) = 0
            text "shut" = -104
            force(1) = -2
            """);
        says("Promise 9: Whether it is well now (1, 0)", """
            well() = 0 | set(2, 0, 2) = 0 | well() = 1
            rule "shut 0;cost 0;wish 9999;"
            well() = 1
            """);
    }

    // ---- Promises 10 to 16

    private static void callsOnGoing() {
        says("Promise 10: BAD: no such DOOR", """
            go(0) = -2 | door(1, 0, 0) = 0 | go(0) = -3 | go(1) = -2 | go(-1) = -2 | go(4) = -2 | go(2147483647) = -2
            """);
        says("Promise 10: STATE: it is not of this ROOM, or doesn't open", """
            house 3: 0 120 0, 3 0 0
            go(0) = -3 | go(1) = 0 | go(1) = -3 | count(2) = 1 | count(7) = 3 | set(2, 0, 1) = 0 | go(1) = -3 | go(0) = 2
            """);
        says("Promise 11: BAD", """
            come(-1) = -2 | come(4) = -2 | come(2147483647) = -2 | come(-2147483648) = -2 | come(0) = 1 | come(3) = 1
            """);
        says("Promise 12: BAD; NONE", """
            shortest(-1) = -2 | shortest(3) = -2 | shortest(2147483647) = -2 | shortest(2) = -1
            set(3, 0, 6) = 3 | shortest(3) = -1 | shortest(5) = -1 | shortest(6) = -2 | set(3, 0, 1) = 6 | shortest(1) = -2
            """);
        says("Promise 13: BAD: ROOM", """
            first(-1, 0) = -2 | first(3, 0) = -2 | first(2147483647, 0) = -2 | first(-2147483648, 0) = -2
            set(3, 0, 6) = 3 | first(5, 0) = -1 | first(6, 0) = -2
            """);
        says("Promise 13: NONE: it has no such", """
            house 4: 0 10 0, 0 120 0
            first(2, 0) = 0 | first(2, 1) = 1 | first(2, 2) = -1 | first(2, -1) = -1 | first(2, 2147483647) = -1
            first(2, -2147483648) = -1 | first(0, 0) = -1 | first(3, 0) = -1
            """);
        says("Promise 14: BAD", """
            shutIn(-1) = -2 | shutIn(3) = -2 | shutIn(2147483647) = -2 | shutIn(2) = 1 | shutIn(0) = 0
            set(3, 0, 6) = 3 | shutIn(5) = 1 | shutIn(6) = -2
            """);
        says("Promise 15: NONE", """
            house 3: 0 10 0
            wished() = -1
            rule "shut 0;cost 0;wish state = 4;"
            wished() = -1
            rule "shut 0;cost 0;wish state = 3;"
            wished() = 3
            """);
        says("Promise 16: NONE", """
            found() = -1 | door(3, 0, 0) = 0 | found() = -1 | door(2, 0, 0) = 1 | found() = -1
            """);
    }

    // ---- Promises 17 to 24

    private static void callsOnRows() {
        says("Promise 17: BAD: SHEET; -11; NONE", """
            judge(-1) = -2 | judge(4) = -2 | judge(2147483647) = -2 | judge(0) = -11 | judge(3) = -11
            sheet(3, 2, 0) = 1 | judge(3) = -1 | sheet(3, -1, 0) = 1 | judge(3) = -11
            """);
        says("Promise 18: BAD: SHEET, what; -11", """
            row(-1, 0) = -2 | row(4, 0) = -2 | row(0, -1) = -2 | row(0, 2) = -2 | row(0, 0) = -11 | row(3, 1) = -11
            sheet(3, 2, 0) = 1 | row(3, 0) = 0 | row(3, 1) = 0 | row(3, 2) = -2 | row(3, -1) = -2 | row(2147483647, 0) = -2
            """);
        says("Promise 19: BAD: SHEET, what; -11", """
            heard(-1, 0) = -2 | heard(4, 0) = -2 | heard(0, -1) = -2 | heard(0, 2) = -2 | heard(0, 0) = -11 | heard(3, 1) = -11
            sheet(3, 2, 0) = 1 | heard(3, 0) = 7 | heard(3, 1) = 12 | heard(3, 2) = -2 | heard(3, -1) = -2 | heard(2147483647, 0) = -2
            """);
        says("Promise 20: NONE", """
            oil() = -1 | door(0, 110, 0) = 0 | oil() = 0
            """);
        says("Promise 21: BAD", """
            thief(0, 0) = -2 | door(0, 10, 0) = 0 | thief(0, 3) = 2 | thief(0, 4) = -2 | thief(0, -1) = -2
            thief(1, 0) = -2 | thief(-1, 0) = -2 | thief(4, 1) = -2 | thief(2147483647, 0) = -2 | thief(0, -2147483648) = -2
            """);
        says("Promise 22: AN IMAGE is kept: the ROOM where one is", """
            image() = 0 | set(2, 0, 2) = 0 | image() = 2 | set(2, 0, 1) = 2 | back() = 2 | set(2, 0, 0) = 2 | back() = 2 | count(3) = 2
            """);
        says("Promise 23: STATE: there is none", """
            set(1, 0, 3) = 0 | back() = -3 | count(2) = 3 | image() = 0 | back() = 0
            """);
        says("Promise 23: STATE: that ROOM isn't there any more", """
            set(3, 0, 6) = 3 | set(2, 0, 5) = 0 | image() = 5 | set(2, 0, 1) = 5 | set(1, 0, 2) = 0
            set(3, 0, 5) = 6 | back() = -3 | count(3) = 1 | count(2) = 2
            set(3, 0, 6) = 5 | back() = 5 | count(2) = 0
            """);
        says("Promise 24: BAD", """
            count(-1) = -2 | count(8) = -2 | count(2147483647) = -2 | count(-2147483648) = -2 | count(0) = 3 | count(7) = 0
            """);
        says("Promise 24: all STATES together", """
            house 3: 0 0 0, 0 0 0, 0 0 0, 0 0 0
            count(7) = 0 | set(0, 0, 3) = 0 | set(0, 3, 1) = 0 | count(7) = 4
            set(0, 1, 3) = 0 | set(0, 2, 3) = 0 | set(0, 3, 3) = 1 | count(7) = 12
            """);
    }

    // ---- Promises 25 to 29

    private static void callsOnSheets() {
        says("Promise 25: a row of n of a sort, all 0", """
            door(0, 0, 0) = 0
            sheet(0, 0, 40) = 1 | judge(0) = -1 | cell(0, 39, 1) = 1 | cell(0, 40, 1) = -12 | judge(0) = 39
            sheet(0, 0, 40) = 1 | judge(0) = -1 | row(0, 0) = 154
            sheet(0, 1, 0) = 1 | cell(0, 0, 0) = -12 | judge(0) = -1 | row(0, 0) = 0
            """);
        says("Promise 25: or missing (sort -1: n does not matter)", """
            sheet(0, 0, 1) = 1 | sheet(0, -1, 41) = 1 | judge(0) = -11 | sheet(0, -1, -1) = 1
            sheet(1, -1, 2147483647) = 1 | sheet(1, -1, -2147483648) = 1 | judge(1) = -11
            """);
        says("Promise 25: BAD: no such SHEET, sort", """
            sheet(-1, 0, 1) = -2 | sheet(4, 0, 1) = -2 | sheet(4, -1, 1) = -2 | sheet(0, -2, 1) = -2 | sheet(0, 3, 1) = -2
            sheet(2147483647, 0, 1) = -2 | sheet(0, -2147483648, 1) = -2 | judge(0) = -11 | sheet(3, 2, 1) = 1 | judge(3) = 0
            """);
        says("Promise 25: BAD: n above 40", """
            sheet(0, 0, 41) = -2 | sheet(0, 0, 2147483647) = -2 | judge(0) = -11 | sheet(0, 0, 40) = 1
            sheet(0, 2, 41) = -2 | doors(0, 0, 0, 0) = 0 | cell(0, 39, 0) = 1
            """);
        says("Promise 25: -14", """
            sheet(0, 0, -1) = -14 | sheet(0, 2, -2147483648) = -14 | judge(0) = -11 | sheet(0, 0, 0) = 1 | judge(0) = -1
            """);
        says("Promise 26: of bytes its lowest 8 bits", """
            house 3: 0 0 0, 0 0 0
            lay 0 0: 0 256 -256 257 -255 2147483392
            judge(0) = -1 | row(0, 0) = 13
            lay 0 0: 127
            judge(0) = 0
            lay 0 0: 0 456 0 0 266 0
            doors(0, 0, 0, 1) = 0 | doors(0, 0, 3, 1) = 1 | told(2, 2) = 1
            """);
        says("Promise 26: of shorts its lowest 16 bits", """
            house 3: 0 0 0, 0 0 0
            lay 0 1: 65536 65537 -65536 -65535
            judge(0) = -1
            lay 0 1: 0 256
            judge(0) = 1
            lay 0 1: 1 257
            judge(0) = 1
            lay 0 2: 65536
            judge(0) = 0
            lay 0 1: 65536 65858 65545
            set(3, 0, 6) = 3 | doors(0, 1, 0, 1) = 1 | told(2, 1) = 3 | told(2, 2) = 2 | told(2, 3) = 2 | told(2, 7) = 9
            """);
        says("Promise 26: BAD: no such SHEET; -11", """
            cell(-1, 0, 0) = -2 | cell(4, 0, 0) = -2 | cell(2147483647, 0, 0) = -2 | cell(0, 0, 0) = -11 | cell(3, 0, 0) = -11
            """);
        says("Promise 26: -12", """
            lay 0 2: 0 0
            cell(0, -1, 0) = -12 | cell(0, 2, 0) = -12 | cell(0, 2147483647, 0) = -12 | cell(0, -2147483648, 0) = -12
            cell(0, 0, 0) = 1 | cell(0, 1, 0) = 1
            """);
    }

    private static void callsOfTheHost() {
        copies();
        says("Promise 28: n of them (0 .. 4): how many came (others are left out)", """
            lay 0 2: 0 0 1 6 0 0 0 30 0 0 4 0 0 0 10 0 11 2
            doors(0, 2, 0, 0) = 0 | count(1) = 0 | doors(0, 2, 3, 4) = 0 | count(1) = 0
            doors(0, 2, 0, 4) = 1 | count(1) = 1 | told(0, 7) = 1 | doors(0, 2, 6, 4) = 1 | told(1, 7) = 2
            doors(0, 2, 15, 1) = 1 | doors(0, 2, 15, 1) = 1 | doors(0, 2, 15, 1) = 0 | count(1) = 4
            """);
        says("Promise 28: BAD: no such SHEET, sort, n", """
            lay 0 0: 0 0 0
            doors(-1, 0, 0, 1) = -2 | doors(4, 0, 0, 1) = -2 | doors(0, -1, 0, 1) = -2 | doors(0, 3, 0, 1) = -2
            doors(0, 0, 0, -1) = -2 | doors(0, 0, 0, 5) = -2 | doors(3, 3, 0, 0) = -2 | doors(3, 0, 0, 5) = -2 | count(1) = 0
            doors(0, 2147483647, 0, 1) = -2 | doors(0, 0, 0, -2147483648) = -2 | doors(2147483647, 0, 0, 1) = -2
            """);
        says("Promise 28: -13; -11", """
            doors(0, 0, 0, 1) = -11 | doors(0, 2, 0, 0) = -11
            lay 0 1: 0 0 0
            doors(0, 0, 0, 1) = -13 | doors(0, 2, 0, 0) = -13 | doors(0, 1, 0, 1) = 1
            """);
        says("Promise 28: -12: what stood ahead came", """
            lay 0 0: 0 0 1 0 0 2 0 0
            doors(0, 0, 0, 3) = -12 | count(1) = 2 | told(0, 7) = 1 | told(1, 7) = 2
            doors(0, 0, -1, 1) = -12 | doors(0, 0, -3, 2) = -12 | doors(0, 0, 6, 1) = -12 | doors(0, 0, 7, 1) = -12
            doors(0, 0, 8, 1) = -12 | doors(0, 0, 2147483647, 4) = -12 | doors(0, 0, -2147483648, 4) = -12 | count(1) = 2
            doors(0, 0, 3, 2) = -12 | count(1) = 3 | told(2, 7) = 2
            """);
        says("Promise 29: A DOOR taken for one of KIND k (0 .. 5), or one under that one (also by others between)", """
            house 3: 4 0 7, 5 0 8, 3 0 9, 0 0 6
            taken(0, 0) = 7 | taken(0, 1) = 7 | taken(0, 4) = 7 | taken(1, 0) = 8 | taken(1, 2) = 8 | taken(1, 5) = 8
            taken(2, 0) = 9 | taken(2, 3) = 9 | taken(3, 0) = 6
            new
            house 3: 1 0 3, 2 0 0
            taken(0, 0) = 3 | taken(0, 1) = 3 | taken(1, 0) = 0 | taken(1, 2) = 0
            """);
        says("Promise 29: BAD: k; -11: no such DOOR", """
            taken(0, -1) = -2 | taken(0, 6) = -2 | taken(0, 2147483647) = -2 | taken(0, 0) = -11 | taken(0, 5) = -11
            door(0, 0, 0) = 0 | taken(0, 6) = -2 | taken(0, 0) = 0 | taken(1, 0) = -11 | taken(-1, 0) = -11 | taken(4, 0) = -11
            taken(2147483647, 5) = -11 | taken(-2147483648, 0) = -11
            """);
        says("Promise 29: -13", """
            house 3: 0 0 7, 1 0 7, 2 0 7, 3 0 7
            taken(0, 1) = -13 | taken(0, 2) = -13 | taken(0, 3) = -13 | taken(0, 4) = -13 | taken(0, 5) = -13
            taken(1, 2) = -13 | taken(1, 3) = -13 | taken(1, 4) = -13 | taken(1, 5) = -13
            taken(2, 1) = -13 | taken(2, 3) = -13 | taken(2, 4) = -13 | taken(2, 5) = -13
            taken(3, 1) = -13 | taken(3, 2) = -13 | taken(3, 4) = -13 | taken(3, 5) = -13
            new
            house 3: 4 0 7, 5 0 7
            taken(0, 2) = -13 | taken(0, 3) = -13 | taken(0, 5) = -13 | taken(1, 1) = -13 | taken(1, 3) = -13 | taken(1, 4) = -13
            """);
    }

    private static void copies() {
        says("Promise 27: n numbers of a SHEET, from item i on, come to another one's item j on (as they were): n", """
            house 3: 0 0 0, 0 0 0, 0 0 0
            rule "shut 0;cost door * 10 + turn;wish 0;"
            lay 0 0: 0 2 1 0
            lay 1 0: 0 0 0 0
            copy(0, 1, 1, 0, 2) = 2 | row(1, 0) = 36 | row(0, 0) = 36 | copy(0, 0, 1, 0, 4) = 4 | row(1, 0) = 36
            lay 0 0: 0 2 9
            copy(0, 0, 0, 1, 2) = 2 | row(0, 0) = 23 | judge(0) = -1
            lay 0 0: 9 2 1
            copy(0, 1, 0, 0, 2) = 2 | row(0, 0) = 43 | judge(0) = -1
            """);
        says("Promise 27: BAD: no such SHEET", """
            lay 0 0: 0
            copy(-1, 0, 0, 0, 1) = -2 | copy(4, 0, 0, 0, 1) = -2 | copy(0, 0, -1, 0, 1) = -2 | copy(0, 0, 4, 0, 1) = -2
            copy(2147483647, 0, 0, 0, 1) = -2 | copy(0, 0, -2147483648, 0, 1) = -2
            """);
        says("Promise 27: -11", """
            lay 0 0: 0
            copy(0, 0, 1, 0, 1) = -11 | copy(1, 0, 0, 0, 1) = -11 | copy(1, 0, 1, 0, 0) = -11
            """);
        says("Promise 27: -13: they are of unlike sorts", """
            lay 0 0: 0
            lay 1 1: 0
            lay 2 2: 0
            copy(0, 0, 1, 0, 1) = -13 | copy(1, 0, 0, 0, 1) = -13 | copy(0, 0, 2, 0, 1) = -13 | copy(2, 0, 1, 0, 0) = -13
            lay 3 2: 0
            copy(2, 0, 3, 0, 1) = 1
            """);
        says("Promise 27: -12", """
            lay 0 0: 0 0 0
            lay 1 0: 0 0
            copy(0, -1, 1, 0, 1) = -12 | copy(0, 0, 1, -1, 1) = -12 | copy(0, 3, 1, 0, 1) = -12 | copy(0, 0, 1, 2, 1) = -12
            copy(0, 2, 1, 0, 2) = -12 | copy(0, 0, 1, 0, 3) = -12 | copy(0, 4, 1, 0, 0) = -12 | copy(0, 0, 1, 3, 0) = -12
            copy(0, 1, 1, 0, 2147483647) = -12 | copy(0, 2147483647, 1, 0, 1) = -12 | copy(0, 2147483647, 1, 2147483647, 2147483647) = -12
            copy(0, 3, 1, 2, 0) = 0 | copy(0, 1, 1, 0, 2) = 2 | copy(0, 0, 0, 0, 3) = 3
            """);
        says("Promise 27: -12 also with n below 0", """
            lay 0 0: 0 0 0
            copy(0, 0, 0, 0, -1) = -12 | copy(0, 2, 0, 2, -1) = -12 | copy(0, 0, 0, 0, -2147483648) = -12 | copy(0, 0, 0, 0, 0) = 0
            """);
    }

    /** What 512 calls left behind is as the model has it: the last call is answered as the others are. */
    private static void theLastCall() {
        sentences++;
        DoorsRemember x = new DoorsRemember();
        Model m = new Model();
        String call = "[An object is used for at most 512 calls] call ";
        int[] kinds = {DOOR, DOOR, COUNT, NEVER};
        int[] wheres = {10, 110, 0, 123};
        for (int i = 0; i < 4; i++) due(call + i, x.door(kinds[i], wheres[i], i), m.door(kinds[i], wheres[i], i));
        for (int i = 4; i < 511; i++) due(call + i, x.go(i * i % 5 % 4), m.go(i * i % 5 % 4));
        due(call + 512, x.come(1), m.come(1));
    }
}
