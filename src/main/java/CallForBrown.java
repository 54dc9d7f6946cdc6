import java.util.Arrays;

/** Calling for Mr Brown; ../shared/DOC.md says what each call answers. */
public final class CallForBrown {
    public static final int NONE = -1;

    private static final int NO_SUCH = -2;
    private static final int NEGATIVE = -3;
    private static final int FAULTY = -4;
    private static final int REFUSED = -5;
    private static final int NOTHING = -6;
    private static final int BEYOND = -7;
    private static final int UNLIKE = -8;

    private static final int MILLION = 1000000;
    private static final int MAX_TAPE = 900;
    private static final int MAX_ROOMS = 7;
    private static final int MAX_MEN = 6;
    private static final int QUESTIONS = 6;
    private static final int MAX_MINUTES = 60;
    private static final int MAX_LATER = 200;
    private static final int MAX_BEST = 5;
    private static final int MAX_PENCE = 9;
    private static final int MAX_LOT = 20;
    private static final int MAX_SEED = 2000000000;
    private static final int SLOTS = 4;
    private static final int IMAGES = 3;
    private static final int MAX_ROW = 60;

    private final Reader reader = new Reader();
    private final Tape tape = reader.tape;
    private final House draft = new House();
    private final State state = new State();
    private final State[] images = new State[IMAGES];
    private final Row[] rows = new Row[SLOTS];
    private final Parts now = new Parts();
    private final Parts work = new Parts();
    private final Boy caller = new Boy();
    private final Chase chase = new Chase();
    private final Men men = new Men();
    private final Evening evening = new Evening();

    public CallForBrown() {
        for (int k = 0; k < IMAGES; k++) {
            images[k] = new State();
        }
        for (int slot = 0; slot < SLOTS; slot++) {
            rows[slot] = new Row();
        }
    }

    // The text and what it tells.

    public int feed(int a, int b, int c, int d, int e) {
        if (tape.size + 20 > MAX_TAPE) {
            return NONE;
        }
        tape.push(a);
        tape.push(b);
        tape.push(c);
        tape.push(d);
        tape.push(e);
        return tape.size;
    }

    public int end(int n) {
        if (n < 0 || n > tape.size) {
            return NONE;
        }
        tape.size = n;
        return n;
    }

    public int house() {
        if (!reader.readHouse(draft)) {
            return FAULTY;
        }
        tape.size = 0;
        state.house.copyFrom(draft);
        state.minutes = 0;
        replay();
        return state.house.lines;
    }

    public int fault(int what) {
        switch (what) {
            case 0:
                return reader.fault;
            case 1:
                return reader.faultPlace;
            default:
                return NONE;
        }
    }

    public int room(int room, int what) {
        if (!isRoom(room) || what < 0 || what > 3) {
            return NO_SUCH;
        }
        return state.house.column(what)[room];
    }

    public int man(int man, int what) {
        if (!isMan(man) || what < 0 || what > 1) {
            return NO_SUCH;
        }
        return what == 0 ? state.house.weighs[man] : state.house.says[man];
    }

    public int slate(int man, int as) {
        if (!isMan(man) || !isMan(as)) {
            return NO_SUCH;
        }
        return state.house.slate[man * MAX_MEN + as];
    }

    public int hears(int room, int pence) {
        if (!isRoom(room) || pence < 0 || pence > MAX_PENCE) {
            return NO_SUCH;
        }
        return state.house.heard(room, pence);
    }

    // Where HE is by chances.

    public int parts(int room) {
        return isRoomOrOut(room) ? now.of(room) : NO_SUCH;
    }

    public int found() {
        return hasHouse() ? now.found : NO_SUCH;
    }

    public int likely() {
        if (!hasHouse()) {
            return NO_SUCH;
        }
        int most = NONE;
        for (int room = 0; room < state.house.rooms; room++) {
            if (most == NONE || now.in[room] > now.in[most]) {
                most = room;
            }
        }
        return most;
    }

    public int here() {
        return hasHouse() ? now.chanceHere() : NO_SUCH;
    }

    public int chance(int room) {
        return isRoomOrOut(room) ? now.chanceOf(now.of(room)) : NO_SUCH;
    }

    // MINUTES made and taken back.

    public int call(int room) {
        if (!isRoomOrOut(room)) {
            return NO_SUCH;
        }
        if (state.minutes >= MAX_MINUTES) {
            return REFUSED;
        }
        state.calls[state.minutes] = room;
        state.minutes++;
        return now.live(state.house, room, 0);
    }

    public int undo() {
        if (!hasHouse()) {
            return NO_SUCH;
        }
        if (state.minutes < 1) {
            return REFUSED;
        }
        state.minutes--;
        replay();
        return state.minutes;
    }

    public int anew() {
        if (!hasHouse()) {
            return NO_SUCH;
        }
        int were = state.minutes;
        state.minutes = 0;
        replay();
        return were;
    }

    public int later(int room, int n) {
        if (!isRoomOrOut(room) || n < 0 || n > MAX_LATER) {
            return NO_SUCH;
        }
        work.copyFrom(now);
        for (int i = 0; i < n; i++) {
            work.pass(state.house, NONE);
        }
        return work.of(room);
    }

    // ROUNDS that are not made, only asked about.

    public int round(int slot) {
        int code = askRound(slot, true);
        return code != 0 ? code : foundIn(rows[slot], 0);
    }

    public int behind(int slot, int room) {
        int code = askRound(slot, isRoom(room));
        if (code != 0) {
            return code;
        }
        foundIn(rows[slot], 0);
        return work.of(room);
    }

    public int disturbs(int slot) {
        int code = askRound(slot, true);
        if (code != 0) {
            return code;
        }
        Row row = rows[slot];
        int people = 0;
        for (int i = 0; i < row.size; i++) {
            int room = row.roomAt(i);
            if (room != NONE) {
                people += state.house.people[room];
            }
        }
        return people;
    }

    public int gain(int slot) {
        int code = askRound(slot, true);
        if (code != 0) {
            return code * MILLION;
        }
        return gainOf(foundIn(rows[slot], 0), rows[slot].size);
    }

    public int stop(int slot) {
        int code = askRound(slot, true);
        if (code != 0) {
            return code;
        }
        Row row = rows[slot];
        work.copyFrom(now);
        int greatest = 0;
        int behind = 0;
        for (int i = 0; i < row.size; i++) {
            work.live(state.house, row.roomAt(i), 0);
            int gain = gainOf(work.found - now.found, i + 1);
            if (gain > greatest) {
                greatest = gain;
                behind = i + 1;
            }
        }
        return behind;
    }

    public int doubt(int slot, int n) {
        int code = askRound(slot, isPartOfMillion(n));
        if (code != 0) {
            return code;
        }
        Row row = rows[slot];
        work.copyFrom(now);
        for (int i = 0; i < row.size; i++) {
            if (work.chanceHere() < n) {
                return i;
            }
            work.live(state.house, row.roomAt(i), 0);
        }
        return NONE;
    }

    public int walks(int slot, int room) {
        int code = askRound(slot, isRoom(room));
        if (code != 0) {
            return code;
        }
        return canWalk(rows[slot], room) ? 1 : 0;
    }

    public int penny(int slot) {
        int code = askRound(slot, true);
        if (code != 0) {
            return code;
        }
        Row row = rows[slot];
        int calls = row.callCount();
        int best = 0;
        int greatest = 0;
        for (int pence = 0; pence <= MAX_PENCE; pence++) {
            int gain = gainOf(foundIn(row, pence), row.size) - pence * calls;
            if (pence == 0 || gain > greatest) {
                greatest = gain;
                best = pence;
            }
        }
        return best;
    }

    // The best rounds.

    public int best(int room, int n) {
        if (!isRoom(room) || !isBestLength(n)) {
            return NO_SUCH;
        }
        return caller.mostFrom(state.house, now, room, n);
    }

    public int goes(int room, int n, int i) {
        if (!isRoom(room) || !isBestLength(n)) {
            return NO_SUCH;
        }
        if (i < 0 || i >= n) {
            return NONE;
        }
        caller.mostFrom(state.house, now, room, n);
        return caller.stepAt(i);
    }

    public int begins(int n) {
        if (state.house.rooms < 1 || !isBestLength(n)) {
            return NO_SUCH;
        }
        return caller.bestStart(state.house, now, n);
    }

    public int soon(int room, int n) {
        if (!isRoom(room) || !isPartOfMillion(n)) {
            return NO_SUCH;
        }
        for (int minutes = 0; minutes <= MAX_BEST; minutes++) {
            if (caller.mostFrom(state.house, now, room, minutes) >= n) {
                return minutes;
            }
        }
        return NONE;
    }

    public int far(int room, int other) {
        if (!isRoom(room) || !isRoom(other)) {
            return NO_SUCH;
        }
        int reached = 1 << room;
        for (int minutes = 0; minutes < MAX_ROOMS; minutes++) {
            if ((reached >> other & 1) != 0) {
                return minutes;
            }
            reached = state.house.spread(reached);
        }
        return NONE;
    }

    public int hangs(int slot) {
        int code = askRound(slot, true);
        if (code != 0) {
            return code;
        }
        Row row = rows[slot];
        work.copyFrom(now);
        for (int i = 0; i < row.size; i++) {
            int got = work.live(state.house, row.roomAt(i), 0);
            if (worthOf(got) < state.house.price) {
                return i;
            }
        }
        return NONE;
    }

    public int rest() {
        if (!hasHouse()) {
            return NO_SUCH;
        }
        work.copyFrom(now);
        for (int minutes = 0; minutes <= MAX_LATER; minutes++) {
            if (!work.pass(state.house, NONE)) {
                return minutes;
            }
        }
        return NONE;
    }

    // Trumpets, calls at once, cards.

    public int trumpet() {
        return hasHouse() ? foundAtOnce(state.house.allRooms()) : NO_SUCH;
    }

    public int quiet(int n) {
        if (!hasHouse() || !isPartOfMillion(n)) {
            return NO_SUCH;
        }
        int set = quietestSet(n);
        return set == NONE ? NONE : peopleOf(set);
    }

    public int quietly(int n) {
        if (!hasHouse() || !isPartOfMillion(n)) {
            return NO_SUCH;
        }
        return quietestSet(n);
    }

    public int card(int room, int n) {
        if (!isRoom(room) || n < 0 || n > MAX_LATER) {
            return NO_SUCH;
        }
        return comesInto(room, n);
    }

    public int desk(int n) {
        if (state.house.rooms < 1 || n < 0 || n > MAX_LATER) {
            return NO_SUCH;
        }
        int best = 0;
        int most = NONE;
        for (int room = 0; room < state.house.rooms; room++) {
            int comes = comesInto(room, n);
            if (comes > most) {
                most = comes;
                best = room;
            }
        }
        return best;
    }

    // Boys who CLEAR the house.

    public int one(int room) {
        if (!isRoom(room)) {
            return NO_SUCH;
        }
        chase.hunt(state.house, room, room, true);
        return chase.minutesToClear();
    }

    public int two(int room, int other) {
        if (!isRoom(room) || !isRoom(other)) {
            return NO_SUCH;
        }
        chase.hunt(state.house, room, other, false);
        return chase.minutesToClear();
    }

    public int way(int room, int other, int boy, int i) {
        if (!isRoom(room) || !isRoom(other) || boy < 0 || boy > 1) {
            return NO_SUCH;
        }
        chase.hunt(state.house, room, other, false);
        return chase.placeOf(boy, i);
    }

    public int slips(int slot, int room) {
        int code = askRound(slot, isRoom(room));
        if (code != 0) {
            return code;
        }
        Row row = rows[slot];
        if (!canWalk(row, room)) {
            return REFUSED;
        }
        int at = room;
        int set = state.house.allRooms() & ~(1 << at);
        for (int i = 0; i < row.size; i++) {
            int next = row.roomAt(i);
            if (next != NONE) {
                at = next;
            }
            set = state.house.spread(set) & ~(1 << at);
        }
        return set;
    }

    public int boys() {
        if (state.house.rooms < 1) {
            return NO_SUCH;
        }
        for (int room = 0; room < state.house.rooms; room++) {
            if (chase.hunt(state.house, room, room, true)) {
                return 1;
            }
        }
        return chase.pairsThatCan(state.house) > 0 ? 2 : 3;
    }

    public int pairs() {
        return state.house.rooms < 1 ? NO_SUCH : chase.pairsThatCan(state.house);
    }

    // Which MAN is meant.

    public int which(int set) {
        return isSet(set) ? men.fewestFor(state.house, set) : NO_SUCH;
    }

    public int question(int set) {
        return isSet(set) ? men.firstFor(state.house, set) : NO_SUCH;
    }

    public int yes(int set, int question) {
        if (!isSet(set) || question < 0 || question >= QUESTIONS) {
            return NO_SUCH;
        }
        return state.house.whoSayYes(set, question);
    }

    public int list(int set) {
        return isSet(set) ? men.listFor(state.house, set) : NO_SUCH;
    }

    public int meant(int set, int man, int what) {
        if (!isSet(set) || !isMan(man) || (set >> man & 1) == 0 || what < 0 || what > 1) {
            return NO_SUCH;
        }
        int all = 0;
        for (int other = 0; other < state.house.men; other++) {
            if ((set >> other & 1) != 0) {
                all += state.house.weighs[other];
            }
        }
        return (int) men.lowest(state.house.weighs[man], all, what);
    }

    public long read(int man, int as, int what) {
        if (!isMan(man) || !isMan(as) || what < 0 || what > 1) {
            return NO_SUCH;
        }
        return men.lowest(men.share(state.house, man, as), men.allRead(state.house, as), what);
    }

    public int guess(int as) {
        if (!isMan(as)) {
            return NO_SUCH;
        }
        int likeliest = NONE;
        long most = 0;
        for (int man = 0; man < state.house.men; man++) {
            long share = men.share(state.house, man, as);
            if (share > most) {
                most = share;
                likeliest = man;
            }
        }
        return likeliest;
    }

    public long right(int what) {
        if (state.house.men < 1 || what < 0 || what > 1) {
            return NO_SUCH;
        }
        long above = 0;
        long below = 0;
        for (int man = 0; man < state.house.men; man++) {
            above += men.share(state.house, man, man);
            below += men.allRead(state.house, man);
        }
        return men.lowest(above, below, what);
    }

    // Habits.

    public int habit(int slot) {
        int code = askHabits(slot, true);
        if (code != 0) {
            return code;
        }
        return mostFrequent(rows[slot], NONE);
    }

    public int follows(int slot, int room) {
        int code = askHabits(slot, isRoom(room));
        if (code != 0) {
            return code;
        }
        return mostFrequent(rows[slot], room);
    }

    public int period(int slot) {
        int code = askHabits(slot, true);
        if (code != 0) {
            return code;
        }
        Row row = rows[slot];
        for (int evenings = 1; evenings <= row.size; evenings++) {
            if (row.comesAgain(evenings)) {
                return evenings;
            }
        }
        return NONE;
    }

    // EVENINGS drawn.

    public int drawn(int seed, int slot, int what) {
        int code = askRound(slot, isSeed(seed) && what >= 0 && what <= 1);
        if (code != 0) {
            return code;
        }
        evening.draw(state.house, rows[slot], seed);
        return what == 0 ? evening.foundAt : evening.place;
    }

    public int lot(int seed, int slot, int n) {
        int code = askRound(slot, isSeed(seed) && n >= 1 && n <= MAX_LOT);
        if (code != 0) {
            return code;
        }
        int times = 0;
        for (int i = 0; i < n; i++) {
            evening.draw(state.house, rows[slot], (long) seed + i);
            if (evening.foundAt != NONE) {
                times++;
            }
        }
        return times;
    }

    // The HOUSE told otherwise, and counted.

    public int tell(int room, int what, int n) {
        if (!isRoom(room) || what < 0 || what > 2 || n < 0 || n > House.limit(what)) {
            return NO_SUCH;
        }
        if (state.minutes > 0) {
            return REFUSED;
        }
        int[] column = state.house.column(what);
        int was = column[room];
        column[room] = n;
        replay();
        return was;
    }

    public int shut(int room, int other, int is) {
        if (!isRoom(room) || !isRoom(other) || room == other || is < 0 || is > 1) {
            return NO_SUCH;
        }
        if (state.minutes > 0) {
            return REFUSED;
        }
        boolean was = state.house.isDoor(room, other);
        if (is == 1) {
            state.house.openDoor(room, other);
        } else {
            state.house.closeDoor(room, other);
        }
        return was ? 1 : 0;
    }

    public int count(int what) {
        switch (what) {
            case 0:
                return state.house.rooms;
            case 1:
                return state.house.countDoors();
            case 2:
                return state.house.men;
            case 3:
                return peopleOf(state.house.allRooms());
            case 4:
                return state.house.lines;
            case 5:
                return tape.size;
            case 6:
                return state.minutes;
            case 7:
                return countRows();
            default:
                return NONE;
        }
    }

    // IMAGES.

    public int image(int k) {
        if (k < 0 || k >= IMAGES) {
            return NO_SUCH;
        }
        images[k].copyFrom(state);
        images[k].kept = true;
        return 0;
    }

    public int back(int k) {
        if (k < 0 || k >= IMAGES) {
            return NO_SUCH;
        }
        if (!images[k].kept) {
            return NOTHING;
        }
        state.copyFrom(images[k]);
        replay();
        return 0;
    }

    // SLOTS.

    public int row(int slot, int width, int n) {
        if (!isSlot(slot) || width < 0 || width > 3 || n > MAX_ROW) {
            return NO_SUCH;
        }
        if (n < 0) {
            return NEGATIVE;
        }
        rows[slot].make(width, n);
        return 0;
    }

    public int write(int slot, int i, long v) {
        if (!isSlot(slot)) {
            return NO_SUCH;
        }
        Row row = rows[slot];
        if (!row.made) {
            return NOTHING;
        }
        if (i < 0 || i >= row.size) {
            return BEYOND;
        }
        row.numbers[i] = row.cut(v);
        return 0;
    }

    public int paste(int slot, int i, int to, int k, int n) {
        if (!isSlot(slot) || !isSlot(to)) {
            return NO_SUCH;
        }
        Row from = rows[slot];
        Row into = rows[to];
        if (!from.made || !into.made) {
            return NOTHING;
        }
        if (from.width != into.width) {
            return UNLIKE;
        }
        if (!from.holds(i, n) || !into.holds(k, n)) {
            return BEYOND;
        }
        System.arraycopy(from.numbers, i, into.numbers, k, n);
        return 0;
    }

    // What the calls ask ahead.

    private boolean hasHouse() {
        return state.house.lines > 0;
    }

    private boolean isRoom(int room) {
        return state.house.hasRoom(room);
    }

    private boolean isRoomOrOut(int room) {
        return hasHouse() && (room == NONE || isRoom(room));
    }

    private boolean isMan(int man) {
        return man >= 0 && man < state.house.men;
    }

    private boolean isSet(int set) {
        return set >= 1 && set < 1 << state.house.men;
    }

    private boolean isPartOfMillion(int n) {
        return n >= 0 && n <= MILLION;
    }

    private boolean isBestLength(int n) {
        return n >= 0 && n <= MAX_BEST;
    }

    private boolean isSeed(int seed) {
        return seed >= 0 && seed <= MAX_SEED;
    }

    private boolean isSlot(int slot) {
        return slot >= 0 && slot < SLOTS;
    }

    private int askRound(int slot, boolean othersAreSuch) {
        return askRow(slot, othersAreSuch, NONE);
    }

    private int askHabits(int slot, boolean othersAreSuch) {
        return askRow(slot, othersAreSuch, 0);
    }

    /** 0 if the row can be taken; the document asks for its numbers last, behind what it has at all. */
    private int askRow(int slot, boolean othersAreSuch, int leastNumber) {
        if (!isSlot(slot) || !hasHouse() || !othersAreSuch) {
            return NO_SUCH;
        }
        if (!rows[slot].made) {
            return NOTHING;
        }
        return rows[slot].isWithin(leastNumber, state.house.rooms - 1) ? 0 : NO_SUCH;
    }

    // What several calls reckon alike.

    /** MINUTES are kept as CALLS alone: what they did is made again from the first. */
    private void replay() {
        now.begin(state.house);
        for (int i = 0; i < state.minutes; i++) {
            now.live(state.house, state.calls[i], 0);
        }
    }

    private int foundIn(Row row, int pence) {
        work.copyFrom(now);
        for (int i = 0; i < row.size; i++) {
            work.live(state.house, row.roomAt(i), pence);
        }
        return work.found - now.found;
    }

    private int worthOf(int found) {
        return (int) ((long) state.house.worth * found / MILLION);
    }

    private int gainOf(int found, int minutes) {
        return worthOf(found) - state.house.price * minutes;
    }

    private boolean canWalk(Row row, int room) {
        int at = room;
        for (int i = 0; i < row.size; i++) {
            int next = row.roomAt(i);
            if (next != NONE) {
                if (!state.house.isStep(at, next)) {
                    return false;
                }
                at = next;
            }
        }
        return true;
    }

    private int foundAtOnce(int set) {
        int sum = 0;
        for (int room = 0; room < state.house.rooms; room++) {
            if ((set >> room & 1) != 0) {
                sum += now.audible(state.house, room, 0);
            }
        }
        return sum;
    }

    private int peopleOf(int set) {
        int sum = 0;
        for (int room = 0; room < state.house.rooms; room++) {
            if ((set >> room & 1) != 0) {
                sum += state.house.people[room];
            }
        }
        return sum;
    }

    private int quietestSet(int n) {
        int quietest = NONE;
        int fewest = 0;
        for (int set = 0; set <= state.house.allRooms(); set++) {
            if (foundAtOnce(set) >= n) {
                int people = peopleOf(set);
                if (quietest == NONE || people < fewest) {
                    fewest = people;
                    quietest = set;
                }
            }
        }
        return quietest;
    }

    /** What has come into the ROOM is kept there, so that none of it is counted when it comes again. */
    private int comesInto(int room, int n) {
        work.copyFrom(now);
        for (int i = 0; i < n; i++) {
            work.pass(state.house, room);
        }
        return work.of(room);
    }

    /** The ROOM that stands most often behind the other one (NONE: anywhere). */
    private int mostFrequent(Row row, int behind) {
        int frequent = NONE;
        int most = 0;
        for (int room = 0; room < state.house.rooms; room++) {
            int times = row.countOf(room, behind);
            if (times > most) {
                most = times;
                frequent = room;
            }
        }
        return frequent;
    }

    private int countRows() {
        int sum = 0;
        for (int slot = 0; slot < SLOTS; slot++) {
            if (rows[slot].made) {
                sum++;
            }
        }
        return sum;
    }

    private static final class Tape {
        final byte[] bytes = new byte[MAX_TAPE];
        int size;

        void push(int four) {
            for (int shift = 24; shift >= 0 && size < MAX_TAPE; shift -= 8) {
                bytes[size] = (byte) (four >> shift);
                size++;
            }
        }

        int at(int place) {
            return place >= 0 && place < size ? bytes[place] & 255 : 0;
        }
    }

    /** Reads the TAPE from left to right, so that the FAULT it meets is the first by its place. */
    private static final class Reader {
        private static final int AT_END = 0;
        private static final int WORD = 1;
        private static final int NUMBER = 2;
        private static final int SIGN = 3;
        private static final int UNKNOWN = 4;

        private static final int BAD_TOKEN = 1;
        private static final int BAD_NUMBER = 2;
        private static final int TOO_MANY = 3;

        /** Above each bound, and low enough to take ten times of it. */
        private static final int HUGE = 100000;

        final Tape tape = new Tape();
        private int next;
        private int kind;
        private int place;
        private int value;
        int fault;
        int faultPlace = NONE;

        boolean readHouse(House house) {
            house.clear();
            fault = 0;
            faultPlace = NONE;
            next = 0;
            advance();
            for (int i = 0; i <= MAX_TAPE && kind != AT_END; i++) {
                if (!readLine(house)) {
                    return false;
                }
            }
            return true;
        }

        private boolean readLine(House house) {
            boolean first = house.lines == 0;
            boolean well;
            if (first != isWord("house")) {
                well = fail(BAD_TOKEN);
            } else if (first) {
                well = readFirst(house);
            } else if (isWord("room")) {
                well = readRoom(house);
            } else if (isWord("door")) {
                well = readDoor(house);
            } else if (isWord("man")) {
                well = readMan(house);
            } else if (isWord("slate")) {
                well = readSlate(house);
            } else {
                well = fail(BAD_TOKEN);
            }
            if (!well || !takeSign()) {
                return false;
            }
            house.lines++;
            return true;
        }

        private boolean readFirst(House house) {
            advance();
            house.moves = takeNamed("moves", 0, 100);
            house.here = fault == 0 ? takeNamed("here", 0, 100) : NONE;
            house.worth = fault == 0 ? takeNamed("worth", 0, 999) : NONE;
            house.price = fault == 0 ? takeNamed("price", 0, 999) : NONE;
            return fault == 0;
        }

        private boolean readRoom(House house) {
            if (house.rooms >= MAX_ROOMS) {
                return fail(TOO_MANY);
            }
            advance();
            int people = takeNamed("people", 0, House.limit(0));
            int hears = fault == 0 ? takeNamed("hears", 0, House.limit(1)) : NONE;
            int sits = fault == 0 ? takeNamed("sits", 0, House.limit(2)) : NONE;
            if (fault != 0) {
                return false;
            }
            house.addRoom(people, hears, sits);
            return true;
        }

        private boolean readDoor(House house) {
            advance();
            int room = takeNumber(0, house.rooms - 1, NONE);
            int other = fault == 0 ? takeNumber(0, house.rooms - 1, room) : NONE;
            if (fault != 0) {
                return false;
            }
            house.openDoor(room, other);
            return true;
        }

        private boolean readMan(House house) {
            if (house.men >= MAX_MEN) {
                return fail(TOO_MANY);
            }
            advance();
            int weighs = takeNamed("weighs", 1, 99);
            int says = 0;
            if (fault == 0 && isWord("yes")) {
                advance();
                says = takeQuestions();
            }
            if (fault != 0) {
                return false;
            }
            house.addMan(weighs, says);
            return true;
        }

        private int takeQuestions() {
            int says = 0;
            for (int i = 0; i <= MAX_TAPE && (i == 0 || kind == NUMBER); i++) {
                int question = takeNumber(0, QUESTIONS - 1, NONE);
                if (question == NONE) {
                    return 0;
                }
                says |= 1 << question;
            }
            return says;
        }

        private boolean readSlate(House house) {
            advance();
            int man = takeNumber(0, house.men - 1, NONE);
            int as = fault == 0 ? takeNamed("as", 0, house.men - 1) : NONE;
            int has = fault == 0 ? takeNumber(0, 9, NONE) : NONE;
            if (fault != 0) {
                return false;
            }
            house.tellSlate(man, as, has);
            return true;
        }

        private int takeNamed(String word, int low, int high) {
            if (!isWord(word)) {
                fail(BAD_TOKEN);
                return NONE;
            }
            advance();
            return takeNumber(low, high, NONE);
        }

        private int takeNumber(int low, int high, int but) {
            if (kind != NUMBER) {
                fail(BAD_TOKEN);
                return NONE;
            }
            if (value < low || value > high || value == but) {
                fail(BAD_NUMBER);
                return NONE;
            }
            int taken = value;
            advance();
            return taken;
        }

        private boolean takeSign() {
            if (kind != SIGN) {
                return fail(BAD_TOKEN);
            }
            advance();
            return true;
        }

        private boolean fail(int what) {
            fault = what;
            faultPlace = place;
            return false;
        }

        private boolean isWord(String word) {
            if (kind != WORD || next - place != word.length()) {
                return false;
            }
            for (int i = 0; i < word.length(); i++) {
                if (tape.at(place + i) != word.charAt(i)) {
                    return false;
                }
            }
            return true;
        }

        private void advance() {
            while (next < tape.size && isBlank(tape.at(next))) {
                next++;
            }
            place = next;
            value = 0;
            kind = next < tape.size ? kindOf(tape.at(next)) : AT_END;
            if (kind == SIGN || kind == UNKNOWN) {
                next++;
                return;
            }
            while (next < tape.size && kindOf(tape.at(next)) == kind) {
                if (kind == NUMBER && value < HUGE) {
                    value = value * 10 + tape.at(next) - '0';
                }
                next++;
            }
        }

        private boolean isBlank(int sign) {
            return sign == 32 || sign == 10;
        }

        private int kindOf(int sign) {
            if (sign >= 'a' && sign <= 'z') {
                return WORD;
            }
            if (sign >= '0' && sign <= '9') {
                return NUMBER;
            }
            return sign == ';' ? SIGN : UNKNOWN;
        }
    }

    private static final class House {
        int lines;
        int moves;
        int here;
        int worth;
        int price;
        int rooms;
        int men;
        final int[] people = new int[MAX_ROOMS];
        final int[] hears = new int[MAX_ROOMS];
        final int[] sits = new int[MAX_ROOMS];
        final int[] doors = new int[MAX_ROOMS];
        final int[] weighs = new int[MAX_MEN];
        final int[] says = new int[MAX_MEN];
        final int[] slate = new int[MAX_MEN * MAX_MEN];

        /** The greatest people, hears, sits that can be told. */
        static int limit(int what) {
            switch (what) {
                case 0:
                    return 999;
                case 1:
                    return 100;
                default:
                    return 99;
            }
        }

        void clear() {
            lines = 0;
            moves = 0;
            here = 0;
            worth = 0;
            price = 0;
            rooms = 0;
            men = 0;
        }

        void copyFrom(House other) {
            lines = other.lines;
            moves = other.moves;
            here = other.here;
            worth = other.worth;
            price = other.price;
            rooms = other.rooms;
            men = other.men;
            System.arraycopy(other.people, 0, people, 0, MAX_ROOMS);
            System.arraycopy(other.hears, 0, hears, 0, MAX_ROOMS);
            System.arraycopy(other.sits, 0, sits, 0, MAX_ROOMS);
            System.arraycopy(other.doors, 0, doors, 0, MAX_ROOMS);
            System.arraycopy(other.weighs, 0, weighs, 0, MAX_MEN);
            System.arraycopy(other.says, 0, says, 0, MAX_MEN);
            System.arraycopy(other.slate, 0, slate, 0, MAX_MEN * MAX_MEN);
        }

        int[] column(int what) {
            switch (what) {
                case 0:
                    return people;
                case 1:
                    return hears;
                case 2:
                    return sits;
                default:
                    return doors;
            }
        }

        void addRoom(int itsPeople, int itsHears, int itsSits) {
            if (rooms < MAX_ROOMS) {
                people[rooms] = itsPeople;
                hears[rooms] = itsHears;
                sits[rooms] = itsSits;
                doors[rooms] = 0;
                rooms++;
            }
        }

        void addMan(int itsWeight, int itsQuestions) {
            if (men < MAX_MEN) {
                weighs[men] = itsWeight;
                says[men] = itsQuestions;
                for (int other = 0; other <= men; other++) {
                    slate[men * MAX_MEN + other] = 0;
                    slate[other * MAX_MEN + men] = 0;
                }
                slate[men * MAX_MEN + men] = 1;
                men++;
            }
        }

        void tellSlate(int man, int as, int has) {
            if (man >= 0 && man < men && as >= 0 && as < men) {
                slate[man * MAX_MEN + as] = has;
            }
        }

        void openDoor(int room, int other) {
            if (hasRoom(room) && hasRoom(other)) {
                doors[room] |= 1 << other;
                doors[other] |= 1 << room;
            }
        }

        void closeDoor(int room, int other) {
            if (hasRoom(room) && hasRoom(other)) {
                doors[room] &= ~(1 << other);
                doors[other] &= ~(1 << room);
            }
        }

        boolean hasRoom(int room) {
            return room >= 0 && room < rooms;
        }

        boolean isDoor(int room, int other) {
            return hasRoom(room) && hasRoom(other) && (doors[room] >> other & 1) != 0;
        }

        boolean isStep(int room, int other) {
            return room == other || isDoor(room, other);
        }

        int countDoors() {
            int ends = 0;
            for (int room = 0; room < rooms; room++) {
                ends += Integer.bitCount(doors[room]);
            }
            return ends / 2;
        }

        int allRooms() {
            return (1 << rooms) - 1;
        }

        /** The ROOMS of a set and those behind one door of theirs. */
        int spread(int set) {
            int wider = set;
            for (int room = 0; room < rooms; room++) {
                if ((set >> room & 1) != 0) {
                    wider |= doors[room];
                }
            }
            return wider;
        }

        int heard(int room, int pence) {
            if (!hasRoom(room) || pence < 0) {
                return 0;
            }
            return 100 - (100 - hears[room]) / (pence + 1);
        }

        int allSits() {
            int sum = 0;
            for (int room = 0; room < rooms; room++) {
                sum += sits[room];
            }
            return sum;
        }

        int whoSayYes(int set, int question) {
            int who = 0;
            for (int man = 0; man < men; man++) {
                if ((set >> man & 1) != 0 && (says[man] >> question & 1) != 0) {
                    who |= 1 << man;
                }
            }
            return who;
        }
    }

    /** A HOUSE and the MINUTES made in it: what an IMAGE keeps. */
    private static final class State {
        final House house = new House();
        final int[] calls = new int[MAX_MINUTES];
        int minutes;
        boolean kept;

        void copyFrom(State other) {
            house.copyFrom(other.house);
            System.arraycopy(other.calls, 0, calls, 0, MAX_MINUTES);
            minutes = other.minutes;
        }
    }

    private static final class Row {
        final long[] numbers = new long[MAX_ROW];
        boolean made;
        int width;
        int size;

        void make(int itsWidth, int itsSize) {
            made = true;
            width = itsWidth;
            size = itsSize;
            Arrays.fill(numbers, 0L);
        }

        long cut(long v) {
            switch (width) {
                case 0:
                    return (byte) v;
                case 1:
                    return (short) v;
                case 2:
                    return (int) v;
                default:
                    return v;
            }
        }

        boolean holds(int from, int n) {
            return from >= 0 && n >= 0 && (long) from + n <= size;
        }

        boolean isWithin(int low, int high) {
            for (int i = 0; i < size; i++) {
                if (numbers[i] < low || numbers[i] > high) {
                    return false;
                }
            }
            return true;
        }

        int roomAt(int i) {
            return i >= 0 && i < size ? (int) numbers[i] : NONE;
        }

        int callCount() {
            int calls = 0;
            for (int i = 0; i < size; i++) {
                if (numbers[i] != NONE) {
                    calls++;
                }
            }
            return calls;
        }

        int countOf(int room, int behind) {
            int times = 0;
            for (int i = 0; i < size; i++) {
                if (numbers[i] == room && (behind == NONE || i > 0 && numbers[i - 1] == behind)) {
                    times++;
                }
            }
            return times;
        }

        boolean comesAgain(int evenings) {
            for (int i = 0; evenings >= 0 && i + evenings < size; i++) {
                if (numbers[i] != numbers[i + evenings]) {
                    return false;
                }
            }
            return true;
        }
    }

    private static final class Parts {
        final int[] in = new int[MAX_ROOMS];
        private final int[] comes = new int[MAX_ROOMS];
        int out;
        int found;

        void begin(House house) {
            int all = house.allSits();
            int left = MILLION;
            Arrays.fill(in, 0);
            for (int room = 0; room < house.rooms; room++) {
                in[room] = all == 0 ? 0 : house.here * 10000 * house.sits[room] / all;
                left -= in[room];
            }
            out = left;
            found = 0;
        }

        void copyFrom(Parts other) {
            System.arraycopy(other.in, 0, in, 0, MAX_ROOMS);
            out = other.out;
            found = other.found;
        }

        int of(int room) {
            return room >= 0 && room < MAX_ROOMS ? in[room] : out;
        }

        int chanceOf(int part) {
            int left = MILLION - found;
            return left <= 0 ? 0 : (int) ((long) part * MILLION / left);
        }

        int chanceHere() {
            return chanceOf(MILLION - found - out);
        }

        /** How much a CALL in a ROOM would find (NONE: nothing). */
        int audible(House house, int room, int pence) {
            return room >= 0 && room < MAX_ROOMS ? in[room] * house.heard(room, pence) / 100 : 0;
        }

        /** One MINUTE with its CALL (NONE: without): how much is FOUND. */
        int live(House house, int room, int pence) {
            int got = audible(house, room, pence);
            if (got > 0) {
                in[room] -= got;
                found += got;
            }
            pass(house, NONE);
            return got;
        }

        /** A MINUTE without a CALL, in which nothing leaves the ROOM kept (NONE: each may): whether PARTS change. */
        boolean pass(House house, int kept) {
            Arrays.fill(comes, 0);
            for (int room = 0; room < house.rooms; room++) {
                if (room != kept) {
                    leave(house, room);
                }
            }
            boolean changed = false;
            for (int room = 0; room < house.rooms; room++) {
                in[room] += comes[room];
                changed = changed || comes[room] != 0;
            }
            return changed;
        }

        private void leave(House house, int room) {
            int doors = house.doors[room];
            int ways = Integer.bitCount(doors);
            int each = ways == 0 ? 0 : in[room] * house.moves / 100 / ways;
            if (each == 0) {
                return;
            }
            for (int other = 0; other < house.rooms; other++) {
                if ((doors >> other & 1) != 0) {
                    comes[other] += each;
                }
            }
            comes[room] -= each * ways;
        }
    }

    /** Seeks the most that one BOY finds; each level of the search has PARTS and a way of its own. */
    private static final class Boy {
        private final Parts[] levels = new Parts[MAX_BEST];
        private final int[][] ways = new int[MAX_BEST][MAX_BEST];
        private final int[] firsts = new int[MAX_ROOMS];

        Boy() {
            for (int i = 0; i < MAX_BEST; i++) {
                levels[i] = new Parts();
            }
        }

        int mostFrom(House house, Parts now, int room, int n) {
            levels[0].copyFrom(now);
            return seek(house, room, 0, n);
        }

        /** The way of the latest search. */
        int stepAt(int i) {
            return i >= 0 && i < MAX_BEST ? ways[0][i] : NONE;
        }

        /** What follows a first CALL does not hang on where the BOY came from, so each is sought once. */
        int bestStart(House house, Parts now, int n) {
            levels[0].copyFrom(now);
            for (int room = 0; room < house.rooms; room++) {
                firsts[room] = n < 1 ? 0 : calling(house, room, 0, n);
            }
            int best = 0;
            int most = NONE;
            for (int room = 0; room < house.rooms; room++) {
                for (int first = 0; first < house.rooms; first++) {
                    if (house.isStep(room, first) && firsts[first] > most) {
                        most = firsts[first];
                        best = room;
                    }
                }
            }
            return best;
        }

        private int seek(House house, int room, int level, int n) {
            if (level >= n || level >= MAX_BEST) {
                return 0;
            }
            int most = NONE;
            for (int next = 0; next < house.rooms; next++) {
                if (house.isStep(room, next)) {
                    int got = calling(house, next, level, n);
                    if (got > most) {
                        most = got;
                        keepWay(level, next);
                    }
                }
            }
            return most;
        }

        private int calling(House house, int room, int level, int n) {
            if (level + 1 >= n || level + 1 >= MAX_BEST) {
                return levels[level].audible(house, room, 0);
            }
            Parts behind = levels[level + 1];
            behind.copyFrom(levels[level]);
            int got = behind.live(house, room, 0);
            return got + seek(house, room, level + 1, n);
        }

        private void keepWay(int level, int room) {
            ways[level][level] = room;
            for (int i = level + 1; i < MAX_BEST; i++) {
                ways[level][i] = ways[level + 1][i];
            }
        }
    }

    /** Seeks breadth first, over where both boys are and the ROOMS where HE can be. */
    private static final class Chase {
        private static final int SETS = 1 << MAX_ROOMS;
        private static final int PLACES = MAX_ROOMS * MAX_ROOMS;
        /** HE is never where a boy is: 42 places of two boys leave 5 ROOMS to HIM, 7 places of both leave 6. */
        private static final int STATES = 42 * 32 + 7 * 64;

        /** Two longs of bits, one bit a set, for each place of the boys. */
        private final long[] seen = new long[2 * PLACES];
        private final int[] queue = new int[STATES];
        private final int[] before = new int[STATES];
        private final int[] leaders = new int[MAX_ROOMS];
        private final int[] known = new int[PLACES];
        private int tail;
        private int goal = NONE;

        /** Whether they can; one boy is sought as two who go together. */
        boolean hunt(House house, int room, int other, boolean together) {
            Arrays.fill(seen, 0L);
            tail = 0;
            goal = NONE;
            reach(room, other, house.allRooms(), NONE);
            for (int head = 0; head < tail && head < STATES && goal == NONE; head++) {
                goOn(house, head, together);
            }
            return goal != NONE;
        }

        int minutesToClear() {
            if (goal == NONE) {
                return NONE;
            }
            int minutes = 0;
            int at = before[goal];
            for (int i = 0; i < STATES && at != NONE; i++) {
                minutes++;
                at = before[at];
            }
            return minutes;
        }

        int placeOf(int boy, int i) {
            int minutes = minutesToClear();
            if (i < 0 || i >= minutes) {
                return NONE;
            }
            int at = goal;
            for (int k = minutes - 1; k > i && before[at] != NONE; k--) {
                at = before[at];
            }
            int places = queue[at] / SETS;
            return boy == 0 ? places / MAX_ROOMS : places % MAX_ROOMS;
        }

        /**
         * Two who can from one pair of ROOMS can from each pair that leads there by doors (they go there first, and
         * HE is then in no more ROOMS than at first): so one pair is sought for all that hang together.
         */
        int pairsThatCan(House house) {
            Arrays.fill(known, NONE);
            findLeaders(house);
            int sum = 0;
            for (int room = 0; room < house.rooms; room++) {
                for (int other = room; other < house.rooms; other++) {
                    int pair = leaders[room] * MAX_ROOMS + leaders[other];
                    if (known[pair] == NONE) {
                        known[pair] = hunt(house, leaders[room], leaders[other], false) ? 1 : 0;
                    }
                    sum += known[pair];
                }
            }
            return sum;
        }

        /** The least ROOM to which there is a way, for each ROOM. */
        private void findLeaders(House house) {
            for (int room = 0; room < house.rooms; room++) {
                int set = 1 << room;
                for (int i = 0; i < MAX_ROOMS; i++) {
                    set = house.spread(set);
                }
                leaders[room] = Integer.numberOfTrailingZeros(set);
            }
        }

        /** Goes on by the least rows first, so that what is reached first has the first row. */
        private void goOn(House house, int head, boolean together) {
            int places = queue[head] / SETS;
            int wider = house.spread(queue[head] % SETS);
            int room = places / MAX_ROOMS;
            int other = places % MAX_ROOMS;
            for (int next = 0; next < house.rooms; next++) {
                if (!house.isStep(room, next)) {
                    continue;
                }
                for (int second = 0; second < house.rooms; second++) {
                    if (together ? second == next : house.isStep(other, second)) {
                        reach(next, second, wider, head);
                    }
                }
            }
        }

        private void reach(int room, int other, int set, int from) {
            int left = set & ~(1 << room | 1 << other);
            int places = room * MAX_ROOMS + other;
            long bit = 1L << (left & 63);
            int word = 2 * places + (left >> 6);
            if (tail >= STATES || (seen[word] & bit) != 0) {
                return;
            }
            seen[word] |= bit;
            queue[tail] = places * SETS + left;
            before[tail] = from;
            if (left == 0 && goal == NONE) {
                goal = tail;
            }
            tail++;
        }
    }

    private static final class Men {
        private static final int SETS = 1 << MAX_MEN;

        private final int[] fewest = new int[SETS];

        /** Each answer leaves a lesser number as its set, so the sets are told in their order. */
        int fewestFor(House house, int set) {
            for (int s = 1; s <= set && s < SETS; s++) {
                fewest[s] = fewestOf(house, s);
            }
            return set >= 1 && set < SETS ? fewest[set] : NONE;
        }

        int firstFor(House house, int set) {
            int least = fewestFor(house, set);
            if (least < 1) {
                return NONE;
            }
            for (int question = 0; question < QUESTIONS; question++) {
                if (askedFirst(house, set, question) == least) {
                    return question;
                }
            }
            return NONE;
        }

        private int fewestOf(House house, int set) {
            if (Integer.bitCount(set) == 1) {
                return 0;
            }
            int least = NONE;
            for (int question = 0; question < QUESTIONS; question++) {
                int asked = askedFirst(house, set, question);
                if (asked != NONE && (least == NONE || asked < least)) {
                    least = asked;
                }
            }
            return least;
        }

        /** NONE: the QUESTION parts nobody, or what is left can't be told. */
        private int askedFirst(House house, int set, int question) {
            int who = house.whoSayYes(set, question);
            int others = set & ~who;
            if (who == 0 || others == 0 || fewest[who] == NONE || fewest[others] == NONE) {
                return NONE;
            }
            return 1 + Math.max(fewest[who], fewest[others]);
        }

        int listFor(House house, int set) {
            int least = NONE;
            for (int questions = 0; questions < 1 << QUESTIONS; questions++) {
                boolean fewer = least == NONE || Integer.bitCount(questions) < Integer.bitCount(least);
                if (fewer && areApart(house, set, questions)) {
                    least = questions;
                }
            }
            return least;
        }

        private boolean areApart(House house, int set, int questions) {
            for (int man = 0; man < house.men; man++) {
                for (int other = 0; other < man; other++) {
                    boolean both = (set >> man & 1) != 0 && (set >> other & 1) != 0;
                    if (both && ((house.says[man] ^ house.says[other]) & questions) == 0) {
                        return false;
                    }
                }
            }
            return true;
        }

        /** How often a MAN is meant and read so, over one divisor for all: the product of all that each one's slate has. */
        long share(House house, int man, int as) {
            long product = house.weighs[man];
            for (int other = 0; other < house.men; other++) {
                product *= other == man ? hasAs(house, man, as) : hasInAll(house, other);
            }
            return product;
        }

        long allRead(House house, int as) {
            long sum = 0;
            for (int man = 0; man < house.men; man++) {
                sum += share(house, man, as);
            }
            return sum;
        }

        private int hasAs(House house, int man, int as) {
            boolean blank = slateSum(house, man) == 0;
            if (blank) {
                return man == as ? 1 : 0;
            }
            return house.slate[man * MAX_MEN + as];
        }

        private int hasInAll(House house, int man) {
            return Math.max(1, slateSum(house, man));
        }

        private int slateSum(House house, int man) {
            int sum = 0;
            for (int as = 0; as < house.men; as++) {
                sum += house.slate[man * MAX_MEN + as];
            }
            return sum;
        }

        /** What stands above (0) or below (1) in lowest terms; below nothing there is no chance, 0 / 1. */
        long lowest(long above, long below, int what) {
            if (above == 0 || below == 0) {
                return what == 0 ? 0 : 1;
            }
            long divisor = greatestDivisor(above, below);
            return (what == 0 ? above : below) / divisor;
        }

        private long greatestDivisor(long a, long b) {
            long greater = a;
            long lesser = b;
            // Each two steps halve the number, so 200 are more than a long can need.
            for (int i = 0; i < 200 && lesser != 0; i++) {
                long left = greater % lesser;
                greater = lesser;
                lesser = left;
            }
            return greater == 0 ? 1 : greater;
        }
    }

    private static final class Evening {
        private static final long MODULUS = 2147483648L;

        private long x;
        int foundAt;
        int place;

        void draw(House house, Row row, long seed) {
            x = seed;
            foundAt = NONE;
            place = takeSeat(house);
            for (int i = 0; i < row.size && place != NONE && foundAt == NONE; i++) {
                if (row.roomAt(i) == place && next(100) < house.hears[place]) {
                    foundAt = i;
                } else {
                    move(house);
                }
            }
        }

        private int takeSeat(House house) {
            if (next(100) >= house.here) {
                return NONE;
            }
            int all = house.allSits();
            if (all == 0) {
                return NONE;
            }
            int seat = next(all);
            int sum = 0;
            for (int room = 0; room < house.rooms; room++) {
                sum += house.sits[room];
                if (sum > seat) {
                    return room;
                }
            }
            return NONE;
        }

        private void move(House house) {
            int doors = house.doors[place];
            if (doors == 0 || next(100) >= house.moves) {
                return;
            }
            int left = next(Integer.bitCount(doors));
            for (int other = 0; other < house.rooms; other++) {
                if ((doors >> other & 1) != 0) {
                    if (left == 0) {
                        place = other;
                        return;
                    }
                    left--;
                }
            }
        }

        private int next(int n) {
            x = (1103515245L * x + 12345L) % MODULUS;
            return n < 1 ? 0 : (int) (x / 65536 % n);
        }
    }
}
