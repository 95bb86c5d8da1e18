import java.util.Arrays;

/** Rooms, and doors between them that remember who went through. ../shared/DOC.md says what each call answers. */
public final class DoorsRemember {
    public static final int NONE = -1, BAD = -2, STATE = -3, FULL = -4;
    public static final long NO = -4611686018427387904L;

    private static final int MISSING = -11, OUTSIDE = -12, OTHER_SORT = -13, BELOW_ZERO = -14;

    private static final int TEXTS_AT_MOST = 6;
    private static final int SHEETS = 4;
    private static final int FAULT = -100;
    private static final String FIRST_RULE = "shut 0 ; cost 1 + state ; wish room = 2 ;";

    private final House house = new House();
    private final Search search = new Search();
    private final Reader reader = new Reader();
    private final Text[] texts = new Text[TEXTS_AT_MOST];
    private final Sheet[] sheets = new Sheet[SHEETS];
    private int textCount = 0;
    private int ruleNumber = 0;
    private int now = 0;
    private boolean imageKept = false;
    private int imageSituation = 0;
    private int imageDoors = 0;
    private int imageRule = 0;

    public DoorsRemember() {
        for (int i = 0; i < SHEETS; i++) sheets[i] = new Sheet();
        for (int i = 0; i < TEXTS_AT_MOST; i++) texts[i] = new Text();
        for (int i = 0; i < FIRST_RULE.length(); i++) reader.append(FIRST_RULE.charAt(i));
        readNextText();
        takeRule(0);
    }

    // ---- rooms, doors

    public int door(int kind, int where, int number) {
        if (kind < 0 || kind >= Door.KINDS || where < 0 || number < 0 || number > 9) return BAD;
        int one = where / 100;
        int far = where / 10 % 10;
        int key = where % 10;
        if (!house.hasRoom(one) || !house.hasRoom(far) || key >= House.DOORS_AT_MOST) return BAD;
        if (house.doorCount >= House.DOORS_AT_MOST) return FULL;
        return house.add(new Door(kind, one, far, key, number));
    }

    public int set(int what, int of, int v) {
        switch (what) {
            case 0: return setState(of, v);
            case 1: return setTurn(v);
            case 2: return setRoom(v);
            case 3: return setRoomCount(v);
            default: return BAD;
        }
    }

    public int told(int door, int what) {
        Door one = house.doorAt(door);
        if (one == null) return BAD;
        switch (what) {
            case 0: return one.kind;
            case 1: return one.one;
            case 2: return one.far;
            case 3: return one.key;
            case 4: return Situation.stateOf(now, door);
            case 5: return house.opens(Situation.withRoom(now, one.one), door) ? 1 : 0;
            case 6: return one.next(Situation.stateOf(now, door));
            case 7: return one.number;
            default: return BAD;
        }
    }

    public int open() {
        return house.openDoors(now);
    }

    // ---- texts

    public int feed(int n, long bytes) {
        if (n < 1 || n > 8) return BAD;
        if (n > Reader.TAPE - reader.size) return FULL;
        for (int i = 0; i < n; i++) reader.append((int) (bytes >> 8 * i) & 255);
        return reader.size;
    }

    public int text() {
        return readNextText();
    }

    public int force(int text) {
        if (text < 0 || text >= textCount) return BAD;
        int was = ruleNumber;
        takeRule(text);
        return was;
    }

    public int well() {
        return house.isWell(now) ? 1 : 0;
    }

    // ---- going

    public int go(int door) {
        if (house.doorAt(door) == null) return BAD;
        int behind = house.behind(now, door);
        if (behind == House.NOWHERE) return STATE;
        now = behind;
        return Situation.roomOf(now);
    }

    public int come(int what) {
        if (what < 0 || what > 3) return BAD;
        search.from(house, now);
        switch (what) {
            case 0: return search.rooms();
            case 1: return search.size;
            case 2: return search.farthest();
            default: return search.lastOnes(house);
        }
    }

    public int shortest(int room) {
        if (!house.hasRoom(room)) return BAD;
        search.from(house, now);
        return search.doorsTo(search.placeOfRoom(room));
    }

    public int first(int room, int i) {
        if (!house.hasRoom(room)) return BAD;
        search.from(house, now);
        return search.doorOnTheWay(house, search.placeOfRoom(room), i);
    }

    public int shutIn(int room) {
        if (!house.hasRoom(room)) return BAD;
        search.from(house, now);
        return search.roomsCutOffFrom(house, room);
    }

    public int wished() {
        search.from(house, now);
        return search.doorsTo(search.placeOfWell(house));
    }

    public int found() {
        search.from(house, now);
        return search.doorsAround(house, now);
    }

    // ---- rows, oil, a thief

    public int judge(int sheet) {
        Sheet row = sheetAt(sheet);
        if (row == null) return BAD;
        if (row.isMissing()) return MISSING;
        int situation = now;
        for (int i = 0; i < row.size; i++) {
            situation = house.behind(situation, row.item(i));
            if (situation == House.NOWHERE) return i;
        }
        return NONE;
    }

    public int row(int sheet, int what) {
        Sheet row = sheetAt(sheet);
        if (row == null || what < 0 || what > 1) return BAD;
        if (row.isMissing()) return MISSING;
        int costs = 0;
        int situation = now;
        for (int i = 0; i < row.size; i++) {
            int behind = house.behind(situation, row.item(i));
            if (behind == House.NOWHERE) break;
            costs += house.cost(situation, row.item(i));
            situation = behind;
        }
        return what == 0 ? costs : Situation.roomOf(situation);
    }

    public int heard(int sheet, int what) {
        Sheet row = sheetAt(sheet);
        if (row == null || what < 0 || what > 1) return BAD;
        if (row.isMissing()) return MISSING;
        return what == 0 ? roomsOfBeginning(row) : situationsOfBeginning(row);
    }

    public int oil() {
        int best = NONE;
        int most = 0;
        for (int i = 0; i < house.doorCount; i++) {
            int rooms = roomsOnceOiled(i);
            if (rooms > most) {
                most = rooms;
                best = i;
            }
        }
        return best;
    }

    public int thief(int door, int state) {
        if (house.doorAt(door) == null || state < 0 || state > 3) return BAD;
        search.from(house, Situation.withState(now, door, state));
        return Integer.bitCount(search.rooms());
    }

    public int image() {
        imageKept = true;
        imageSituation = now;
        imageDoors = house.doorCount;
        imageRule = ruleNumber;
        return Situation.roomOf(now);
    }

    public int back() {
        if (!imageKept || !house.hasRoom(Situation.roomOf(imageSituation))) return STATE;
        int situation = imageSituation;
        // The image knows nothing of doors that came since: they stay as they are.
        for (int i = imageDoors; i < house.doorCount; i++) {
            situation = Situation.withState(situation, i, Situation.stateOf(now, i));
        }
        now = situation;
        takeRule(imageRule);
        return Situation.roomOf(now);
    }

    public int count(int what) {
        switch (what) {
            case 0: return house.roomCount;
            case 1: return house.doorCount;
            case 2: return Situation.turnOf(now);
            case 3: return Situation.roomOf(now);
            case 4: return textCount;
            case 5: return reader.size;
            case 6: return ruleNumber;
            case 7: return Situation.statesTogether(now);
            default: return BAD;
        }
    }

    // ---- the host

    public int sheet(int sheet, int sort, int n) {
        Sheet row = sheetAt(sheet);
        if (row == null || sort < Sheet.NO_SORT || sort > Sheet.INTS) return BAD;
        if (sort == Sheet.NO_SORT) {
            row.begin(Sheet.NO_SORT, 0);
            return 1;
        }
        if (n > Sheet.SIZE_AT_MOST) return BAD;
        if (n < 0) return BELOW_ZERO;
        row.begin(sort, n);
        return 1;
    }

    public int cell(int sheet, int i, int v) {
        Sheet row = sheetAt(sheet);
        if (row == null) return BAD;
        if (row.isMissing()) return MISSING;
        if (!row.has(i)) return OUTSIDE;
        row.put(i, v);
        return 1;
    }

    public int copy(int sheet, int i, int other, int j, int n) {
        Sheet from = sheetAt(sheet);
        Sheet to = sheetAt(other);
        if (from == null || to == null) return BAD;
        if (from.isMissing() || to.isMissing()) return MISSING;
        if (from.sort != to.sort) return OTHER_SORT;
        if (!from.hasAll(i, n) || !to.hasAll(j, n)) return OUTSIDE;
        System.arraycopy(from.items, i, to.items, j, n);
        return n;
    }

    public int doors(int sheet, int sort, int from, int n) {
        Sheet row = sheetAt(sheet);
        if (row == null || sort < Sheet.BYTES || sort > Sheet.INTS || n < 0 || n > 4) return BAD;
        if (row.isMissing()) return MISSING;
        if (row.sort != sort) return OTHER_SORT;
        int came = 0;
        int place = from;
        for (int i = 0; i < n; i++) {
            if (!row.hasAll(place, 3)) return OUTSIDE;
            if (door(row.item(place), row.item(place + 1), row.item(place + 2)) >= 0) came++;
            place += 3;
        }
        return came;
    }

    public int taken(int door, int k) {
        if (k < 0 || k >= Door.KINDS) return BAD;
        Door one = house.doorAt(door);
        if (one == null) return MISSING;
        return Door.isUnder(one.kind, k) ? one.number : OTHER_SORT;
    }

    // ---- what the calls above share

    private Sheet sheetAt(int sheet) {
        return sheet >= 0 && sheet < SHEETS ? sheets[sheet] : null;
    }

    private int setState(int door, int v) {
        if (house.doorAt(door) == null || v < 0 || v > 3) return BAD;
        int was = Situation.stateOf(now, door);
        now = Situation.withState(now, door, v);
        return was;
    }

    private int setTurn(int v) {
        if (v < 0 || v > 3) return BAD;
        int was = Situation.turnOf(now);
        now = Situation.withTurn(now, v);
        return was;
    }

    private int setRoom(int v) {
        if (!house.hasRoom(v)) return BAD;
        int was = Situation.roomOf(now);
        now = Situation.withRoom(now, v);
        return was;
    }

    private int setRoomCount(int v) {
        if (v < 1 || v > House.ROOMS_AT_MOST) return BAD;
        if (Situation.roomOf(now) >= v || house.highestRoomOfDoors() >= v) return BAD;
        int was = house.roomCount;
        house.roomCount = v;
        return was;
    }

    /** Reads into the first unused text: after a fault it stays unused, and the next reading begins it anew. */
    private int readNextText() {
        Text next = textCount < TEXTS_AT_MOST ? texts[textCount] : null;
        if (next == null) return FULL;
        int fault = reader.read(next);
        reader.size = 0;
        if (fault != Reader.NO_FAULT) return FAULT - fault;
        textCount++;
        return textCount - 1;
    }

    private void takeRule(int text) {
        if (text < 0 || text >= textCount) return;
        ruleNumber = text;
        house.obey(texts[text]);
    }

    private int roomsOnceOiled(int number) {
        Door door = house.doorAt(number);
        if (door == null) return 0;
        int kind = door.kind;
        house.turnInto(number, Door.DOOR);
        search.from(house, now);
        house.turnInto(number, kind);
        return Integer.bitCount(search.rooms());
    }

    private boolean canGoAllOf(Sheet row, int situation) {
        for (int i = 0; i < row.size; i++) {
            situation = house.behind(situation, row.item(i));
            if (situation == House.NOWHERE) return false;
        }
        return true;
    }

    private int roomsOfBeginning(Sheet row) {
        int rooms = 0;
        for (int room = 0; room < house.roomCount; room++) {
            if (canGoAllOf(row, Situation.withRoom(now, room))) rooms |= 1 << room;
        }
        return rooms;
    }

    private int situationsOfBeginning(Sheet row) {
        int states = 1 << 2 * house.doorCount;
        int could = 0;
        for (int room = 0; room < house.roomCount; room++) {
            for (int turn = 0; turn < 4; turn++) {
                for (int s = 0; s < states; s++) {
                    if (canGoAllOf(row, Situation.of(room, turn, s))) could++;
                }
            }
        }
        return could;
    }

    // ---- situations

    /**
     * A situation is one int, so that a search can keep thousands without an object each: two bits of state
     * a door from the lowest bit on (0 for doors that there are not), then two of the turn, then the room.
     */
    private static final class Situation {
        static final int AT_MOST = 6144;

        static int of(int room, int turn, int states) {
            return room << 10 | turn << 8 | states;
        }

        static int roomOf(int situation) {
            return situation >> 10;
        }

        static int turnOf(int situation) {
            return situation >> 8 & 3;
        }

        static int stateOf(int situation, int door) {
            return situation >> 2 * door & 3;
        }

        static int withRoom(int situation, int room) {
            return situation & 1023 | room << 10;
        }

        static int withTurn(int situation, int turn) {
            return situation & ~(3 << 8) | turn << 8;
        }

        static int withState(int situation, int door, int state) {
            return situation & ~(3 << 2 * door) | state << 2 * door;
        }

        static int statesTogether(int situation) {
            int all = 0;
            for (int i = 0; i < House.DOORS_AT_MOST; i++) all += stateOf(situation, i);
            return all;
        }
    }

    // ---- doors

    private static final class Door {
        static final int DOOR = 0, AFTER = 1, COUNT = 2, ONCE = 3, NEVER = 4, LATE = 5;
        static final int KINDS = 6;
        private static final int[] ABOVE = {-1, DOOR, DOOR, DOOR, AFTER, COUNT};

        final int one;
        final int far;
        final int key;
        final int number;
        int kind;
        // A bit for each state, turn and state of the key: whether it opens then, from the one side and the other.
        long openFromOne = 0;
        long openFromFar = 0;

        Door(int kind, int one, int far, int key, int number) {
            this.kind = kind;
            this.one = one;
            this.far = far;
            this.key = key;
            this.number = number;
        }

        static boolean isUnder(int kind, int above) {
            int k = kind;
            for (int i = 0; i < KINDS && k >= 0 && k < KINDS; i++) {
                if (k == above) return true;
                k = ABOVE[k];
            }
            return false;
        }

        boolean isOf(int room) {
            return room == one || room == far;
        }

        int beyond(int room) {
            return room == one ? far : one;
        }

        boolean opensByKind(int state, int turn, int keyState) {
            switch (kind) {
                case AFTER: return keyState > 0;
                case COUNT: return turn == number % 4;
                case ONCE: return state == 0;
                case NEVER: return keyState == 0;
                case LATE: return turn == number % 4 && state < 2;
                default: return true;
            }
        }

        int next(int state) {
            int oneMore = Math.min(state + 1, 3);
            int around = state + 1 & 3;
            switch (kind) {
                case COUNT: return around;
                case ONCE: return 3;
                case NEVER: return oneMore == 3 ? 0 : oneMore;
                case LATE: return Math.min(around, 2);
                default: return oneMore;
            }
        }

        static int bit(int state, int turn, int keyState) {
            return state * 16 + turn * 4 + keyState;
        }

        boolean opens(int room, int bit) {
            long open = room == one ? openFromOne : openFromFar;
            return (open >> bit & 1) != 0;
        }
    }

    // ---- the house

    /** Rooms, doors and the rule: all that does not change as one goes. */
    private static final class House {
        static final int ROOMS_AT_MOST = 6;
        static final int DOORS_AT_MOST = 4;
        static final int NOWHERE = -1;

        int roomCount = 3;
        int doorCount = 0;
        private final Door[] doorList = new Door[DOORS_AT_MOST];
        private final int[] names = new int[Text.NAMES];
        // Until it obeys one, an empty text, which answers 0 to all.
        private Text rule = new Text();

        boolean hasRoom(int room) {
            return room >= 0 && room < roomCount;
        }

        Door doorAt(int number) {
            return number >= 0 && number < doorCount && number < DOORS_AT_MOST ? doorList[number] : null;
        }

        int highestRoomOfDoors() {
            int highest = -1;
            for (int i = 0; i < doorCount; i++) {
                Door door = doorAt(i);
                if (door != null) highest = Math.max(highest, Math.max(door.one, door.far));
            }
            return highest;
        }

        int add(Door door) {
            if (doorCount >= DOORS_AT_MOST) return FULL;
            doorList[doorCount] = door;
            doorCount++;
            foresee(doorCount - 1);
            return doorCount - 1;
        }

        void obey(Text text) {
            if (text == null) return;
            rule = text;
            for (int i = 0; i < doorCount; i++) foresee(i);
        }

        void turnInto(int number, int kind) {
            Door door = doorAt(number);
            if (door == null) return;
            door.kind = kind;
            foresee(number);
        }

        /** Asked once for each way a door can stand, the rule need not be read again at each step of a search. */
        private void foresee(int number) {
            Door door = doorAt(number);
            if (door == null) return;
            door.openFromOne = openings(door, number, door.one);
            door.openFromFar = openings(door, number, door.far);
        }

        private long openings(Door door, int number, int room) {
            long open = 0;
            for (int state = 0; state < 4; state++) {
                for (int turn = 0; turn < 4; turn++) {
                    for (int keyState = 0; keyState < 4; keyState++) {
                        if (!door.opensByKind(state, turn, keyState)) continue;
                        name(number, state, turn, room, keyState, door.beyond(room));
                        if (rule.answer(Text.SHUT, names) == 0) open |= 1L << Door.bit(state, turn, keyState);
                    }
                }
            }
            return open;
        }

        private void name(int number, int state, int turn, int room, int keyState, int other) {
            names[0] = number;
            names[1] = state;
            names[2] = turn;
            names[3] = room;
            names[4] = keyState;
            names[5] = other;
        }

        private int keyState(int situation, Door door) {
            return doorAt(door.key) == null ? 0 : Situation.stateOf(situation, door.key);
        }

        /** Whether a door opens from the situation's room, of which it must be. */
        boolean opens(int situation, int number) {
            Door door = doorAt(number);
            if (door == null) return false;
            int state = Situation.stateOf(situation, number);
            int bit = Door.bit(state, Situation.turnOf(situation), keyState(situation, door));
            return door.opens(Situation.roomOf(situation), bit);
        }

        int openDoors(int situation) {
            int open = 0;
            for (int i = 0; i < doorCount; i++) {
                if (behind(situation, i) != NOWHERE) open |= 1 << i;
            }
            return open;
        }

        /** The situation once one has gone through a door; NOWHERE if one can't, or there is no such door. */
        int behind(int situation, int number) {
            Door door = doorAt(number);
            int room = Situation.roomOf(situation);
            if (door == null || !door.isOf(room) || !opens(situation, number)) return NOWHERE;
            int after = Situation.withState(situation, number, door.next(Situation.stateOf(situation, number)));
            after = Situation.withTurn(after, Situation.turnOf(situation) + 1 & 3);
            return Situation.withRoom(after, door.beyond(room));
        }

        int cost(int situation, int number) {
            Door door = doorAt(number);
            if (door == null) return 0;
            int room = Situation.roomOf(situation);
            int state = Situation.stateOf(situation, number);
            name(number, state, Situation.turnOf(situation), room, keyState(situation, door), door.beyond(room));
            return Math.max(0, Math.min(rule.answer(Text.COST, names), 99));
        }

        boolean isWell(int situation) {
            int states = Situation.statesTogether(situation);
            name(0, states, Situation.turnOf(situation), Situation.roomOf(situation), 0, 0);
            return rule.answer(Text.WISH, names) != 0;
        }
    }

    // ---- what can be come to

    /**
     * All situations that can be come to from one, the nearest first. As doors are tried by their numbers, those
     * of one distance stand by their first rows: the first one found in a room is the end of its first row.
     */
    private static final class Search {
        private static final int PLACE_BITS = 13;
        private static final int PLACE_MASK = (1 << PLACE_BITS) - 1;

        int size = 0;
        // Of each: the situation, and (in the lowest bits) the place of the one ahead of it on its way.
        private final int[] order = new int[Situation.AT_MOST];
        private final long[] seen = new long[Situation.AT_MOST / 64];

        void from(House house, int start) {
            Arrays.fill(seen, 0L);
            size = 0;
            add(start, 0);
            for (int place = 0; place < size && place < order.length; place++) {
                int situation = situationAt(place);
                for (int door = 0; door < house.doorCount; door++) {
                    int behind = house.behind(situation, door);
                    if (behind != House.NOWHERE) add(behind, place);
                }
            }
        }

        private void add(int situation, int ahead) {
            if (size >= order.length || isMarked(situation)) return;
            mark(situation);
            order[size] = situation << PLACE_BITS | ahead;
            size++;
        }

        private boolean isMarked(int situation) {
            int word = situation >> 6;
            return word >= 0 && word < seen.length && (seen[word] >> (situation & 63) & 1) != 0;
        }

        private void mark(int situation) {
            int word = situation >> 6;
            if (word >= 0 && word < seen.length) seen[word] |= 1L << (situation & 63);
        }

        private int situationAt(int place) {
            return place >= 0 && place < size && place < order.length ? order[place] >> PLACE_BITS : 0;
        }

        private int placeAhead(int place) {
            return place >= 0 && place < size && place < order.length ? order[place] & PLACE_MASK : 0;
        }

        int rooms() {
            int rooms = 0;
            for (int i = 0; i < size; i++) rooms |= 1 << Situation.roomOf(situationAt(i));
            return rooms;
        }

        int farthest() {
            return doorsTo(size - 1);
        }

        int lastOnes(House house) {
            int last = 0;
            for (int i = 0; i < size; i++) {
                if (house.openDoors(situationAt(i)) == 0) last++;
            }
            return last;
        }

        int placeOfRoom(int room) {
            for (int i = 0; i < size; i++) {
                if (Situation.roomOf(situationAt(i)) == room) return i;
            }
            return NONE;
        }

        int placeOfWell(House house) {
            for (int i = 0; i < size; i++) {
                if (house.isWell(situationAt(i))) return i;
            }
            return NONE;
        }

        /** How many doors the way to a place has; NONE for the place NONE. */
        int doorsTo(int place) {
            if (place < 0) return NONE;
            int at = place;
            int many = 0;
            while (at > 0 && many < size) {
                at = placeAhead(at);
                many++;
            }
            return many;
        }

        int doorOnTheWay(House house, int place, int i) {
            int all = doorsTo(place);
            if (i < 0 || i >= all) return NONE;
            int at = place;
            for (int k = all - 1; k > i; k--) at = placeAhead(at);
            int ahead = situationAt(placeAhead(at));
            for (int door = 0; door < house.doorCount; door++) {
                if (house.behind(ahead, door) == situationAt(at)) return door;
            }
            return NONE;
        }

        int doorsAround(House house, int start) {
            for (int i = 0; i < size; i++) {
                for (int door = 0; door < house.doorCount; door++) {
                    if (house.behind(situationAt(i), door) == start) return doorsTo(i) + 1;
                }
            }
            return NONE;
        }

        /** Marks anew, those from which the room can be come to: what was seen is known by the order, too. */
        int roomsCutOffFrom(House house, int room) {
            Arrays.fill(seen, 0L);
            boolean more = true;
            for (int sweep = 0; more && sweep <= size; sweep++) {
                more = false;
                for (int i = size - 1; i >= 0; i--) {
                    int situation = situationAt(i);
                    if (isMarked(situation) || !leadsTo(house, situation, room)) continue;
                    mark(situation);
                    more = true;
                }
            }
            int rooms = 0;
            for (int i = 0; i < size; i++) {
                if (!isMarked(situationAt(i))) rooms |= 1 << Situation.roomOf(situationAt(i));
            }
            return rooms;
        }

        private boolean leadsTo(House house, int situation, int room) {
            if (Situation.roomOf(situation) == room) return true;
            for (int door = 0; door < house.doorCount; door++) {
                int behind = house.behind(situation, door);
                if (behind != House.NOWHERE && isMarked(behind)) return true;
            }
            return false;
        }
    }

    // ---- texts

    /** A text that was read, as code for a stack: what is worked on stands ahead of what works on it. */
    private static final class Text {
        static final int SHUT = 0, COST = 1, WISH = 2, PARTS = 3;
        static final int NAMES = 6;
        // Codes from 0 on are numbers; name n is FIRST_NAME - n.
        static final int FIRST_NAME = -1;
        static final int NEGATE = -7, NOT = -8, OR = -9, AND = -10, LESS = -11, LIKE = -12;
        static final int PLUS = -13, MINUS = -14, TIMES = -15;
        // Five open things with five halves waiting in each, and one beside them, are 31.
        private static final int STACK = 40;

        private final int[] code = new int[Reader.TAPE];
        private final int[] ends = new int[PARTS];
        private final int[] stack = new int[STACK];
        private int size = 0;
        private int height = 0;

        void clear() {
            size = 0;
            Arrays.fill(ends, 0);
        }

        void emit(int what) {
            if (size >= code.length) return;
            code[size] = what;
            size++;
        }

        void endPart(int part) {
            if (part >= 0 && part < PARTS) ends[part] = size;
        }

        int answer(int part, int[] names) {
            if (part < 0 || part >= PARTS) return 0;
            height = 0;
            int start = part == 0 ? 0 : ends[part - 1];
            for (int i = start; i < ends[part] && i < code.length; i++) {
                int what = code[i];
                if (what >= 0) {
                    push(what);
                } else if (what > NEGATE) {
                    int name = FIRST_NAME - what;
                    push(name < names.length ? names[name] : 0);
                } else {
                    int last = pop();
                    if (what == NEGATE) push(-last);
                    else if (what == NOT) push(last == 0 ? 1 : 0);
                    else push(ofTwo(what, pop(), last));
                }
            }
            return pop();
        }

        private static int ofTwo(int what, int left, int right) {
            switch (what) {
                case OR: return left != 0 || right != 0 ? 1 : 0;
                case AND: return left != 0 && right != 0 ? 1 : 0;
                case LESS: return left < right ? 1 : 0;
                case LIKE: return left == right ? 1 : 0;
                case PLUS: return left + right;
                case MINUS: return left - right;
                default: return left * right;
            }
        }

        private void push(int value) {
            if (height >= STACK) return;
            stack[height] = value;
            height++;
        }

        private int pop() {
            if (height <= 0 || height > STACK) return 0;
            height--;
            return stack[height];
        }
    }

    /**
     * The tape, and the reading of it, a token ahead. The reading functions answer whether all could stand;
     * they stop at the first token that can't, which is then the token ahead: its place is the fault.
     */
    private static final class Reader {
        static final int TAPE = 160;
        static final int NO_FAULT = -1;
        private static final int OPEN_AT_MOST = 5;
        private static final int DIGITS_AT_MOST = 4;
        private static final String WORDS = "door state turn room key other shut cost wish or and not ";
        private static final String SIGNS = "();+-*<=";
        // Tokens: a sign is its own byte; a word is FIRST_WORD and its place in WORDS.
        private static final int END = 256, NO_TOKEN = 257, NUMBER = 258, FIRST_WORD = 300;
        private static final int FIRST_KEY = 306, OR = 309, AND = 310, NOT = 311;

        int size = 0;
        private final int[] tape = new int[TAPE];
        private int at = 0;
        private int token = END;
        private int tokenPlace = 0;
        private int number = 0;

        void append(int b) {
            if (size >= TAPE) return;
            tape[size] = b;
            size++;
        }

        /** The fault's place, or NO_FAULT. */
        int read(Text text) {
            text.clear();
            at = 0;
            advance();
            for (int part = 0; part < Text.PARTS; part++) {
                if (token != FIRST_KEY + part) return tokenPlace;
                advance();
                if (!readOr(text, 0) || token != ';') return tokenPlace;
                text.endPart(part);
                advance();
            }
            return token == END ? NO_FAULT : tokenPlace;
        }

        private boolean readOr(Text text, int opened) {
            if (!readAnd(text, opened)) return false;
            for (int i = 0; i < TAPE && token == OR; i++) {
                advance();
                if (!readAnd(text, opened)) return false;
                text.emit(Text.OR);
            }
            return true;
        }

        private boolean readAnd(Text text, int opened) {
            if (!readNot(text, opened)) return false;
            for (int i = 0; i < TAPE && token == AND; i++) {
                advance();
                if (!readNot(text, opened)) return false;
                text.emit(Text.AND);
            }
            return true;
        }

        private boolean readNot(Text text, int opened) {
            if (token != NOT) return readComparison(text, opened);
            if (opened >= OPEN_AT_MOST) return false;
            advance();
            if (!readNot(text, opened + 1)) return false;
            text.emit(Text.NOT);
            return true;
        }

        private boolean readComparison(Text text, int opened) {
            if (!readSum(text, opened)) return false;
            if (token != '<' && token != '=') return true;
            int what = token == '<' ? Text.LESS : Text.LIKE;
            advance();
            if (!readSum(text, opened)) return false;
            text.emit(what);
            return true;
        }

        private boolean readSum(Text text, int opened) {
            if (!readTerm(text, opened)) return false;
            for (int i = 0; i < TAPE && (token == '+' || token == '-'); i++) {
                int what = token == '+' ? Text.PLUS : Text.MINUS;
                advance();
                if (!readTerm(text, opened)) return false;
                text.emit(what);
            }
            return true;
        }

        private boolean readTerm(Text text, int opened) {
            if (!readOne(text, opened)) return false;
            for (int i = 0; i < TAPE && token == '*'; i++) {
                advance();
                if (!readOne(text, opened)) return false;
                text.emit(Text.TIMES);
            }
            return true;
        }

        private boolean readOne(Text text, int opened) {
            if (token == NUMBER) {
                text.emit(number);
                advance();
                return true;
            }
            if (token >= FIRST_WORD && token < FIRST_KEY) {
                text.emit(Text.FIRST_NAME - (token - FIRST_WORD));
                advance();
                return true;
            }
            if (token != '-' && token != '(' || opened >= OPEN_AT_MOST) return false;
            return token == '-' ? readNegative(text, opened) : readBraced(text, opened);
        }

        private boolean readNegative(Text text, int opened) {
            advance();
            if (!readOne(text, opened + 1)) return false;
            text.emit(Text.NEGATE);
            return true;
        }

        private boolean readBraced(Text text, int opened) {
            advance();
            if (!readOr(text, opened + 1) || token != ')') return false;
            advance();
            return true;
        }

        private int byteAt(int place) {
            return place >= 0 && place < size && place < TAPE ? tape[place] : END;
        }

        private void advance() {
            while (at < size && (byteAt(at) == 32 || byteAt(at) == 10)) at++;
            tokenPlace = at;
            int b = byteAt(at);
            if (b == END) {
                token = END;
            } else if (isLetter(b)) {
                readWord();
            } else if (isDigit(b)) {
                readNumber();
            } else {
                token = isSign(b) ? b : NO_TOKEN;
                at++;
            }
        }

        private void readWord() {
            while (at < size && isLetter(byteAt(at))) at++;
            int word = wordNumber(tokenPlace, at - tokenPlace);
            token = word < 0 ? NO_TOKEN : FIRST_WORD + word;
        }

        private void readNumber() {
            number = 0;
            while (at < size && isDigit(byteAt(at))) {
                number = number * 10 + byteAt(at) - '0';
                at++;
            }
            token = at - tokenPlace > DIGITS_AT_MOST ? NO_TOKEN : NUMBER;
        }

        private int wordNumber(int from, int length) {
            int word = 0;
            int letters = 0;
            boolean alike = true;
            for (int i = 0; i < WORDS.length(); i++) {
                char c = WORDS.charAt(i);
                if (c == ' ') {
                    if (alike && letters == length) return word;
                    word++;
                    letters = 0;
                    alike = true;
                } else {
                    alike = alike && letters < length && byteAt(from + letters) == c;
                    letters++;
                }
            }
            return -1;
        }

        private static boolean isLetter(int b) {
            return b >= 'a' && b <= 'z';
        }

        private static boolean isDigit(int b) {
            return b >= '0' && b <= '9';
        }

        private static boolean isSign(int b) {
            return b < 128 && SIGNS.indexOf((char) b) >= 0;
        }
    }

    // ---- sheets

    /** A row of numbers, kept as ints cut to their sort. The row itself is made once: a sheet that is begun reuses it. */
    private static final class Sheet {
        static final int NO_SORT = -1, BYTES = 0, SHORTS = 1, INTS = 2;
        static final int SIZE_AT_MOST = 40;

        int sort = NO_SORT;
        int size = 0;
        final int[] items = new int[SIZE_AT_MOST];

        boolean isMissing() {
            return sort == NO_SORT;
        }

        void begin(int ofSort, int ofSize) {
            sort = ofSort;
            size = Math.max(0, Math.min(ofSize, SIZE_AT_MOST));
            Arrays.fill(items, 0);
        }

        boolean has(int i) {
            return i >= 0 && i < size;
        }

        boolean hasAll(int from, int n) {
            return n >= 0 && from >= 0 && from <= size && n <= size - from;
        }

        int item(int i) {
            return has(i) ? items[i] : 0;
        }

        void put(int i, int v) {
            if (!has(i)) return;
            if (sort == BYTES) items[i] = (byte) v;
            else if (sort == SHORTS) items[i] = (short) v;
            else items[i] = v;
        }
    }
}
