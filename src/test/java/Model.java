import java.math.BigInteger;
import java.util.ArrayList;
import java.util.HashMap;
import java.util.List;
import java.util.Map;

/**
 * The document once more, by other ways than the class goes: every row is tried, every state is kept, fractions are
 * made of BigIntegers. ModelTest asks both the same.
 */
final class Model {
    private static final int MILLION = 1000000;

    static final class House {
        int lines;
        int moves;
        int here;
        int worth;
        int price;
        final List<int[]> rooms = new ArrayList<>();
        final List<int[]> men = new ArrayList<>();
        final boolean[][] door = new boolean[7][7];
        final Map<Integer, Integer> slate = new HashMap<>();

        House copy() {
            House h = new House();
            h.lines = lines;
            h.moves = moves;
            h.here = here;
            h.worth = worth;
            h.price = price;
            for (int[] room : rooms) {
                h.rooms.add(room.clone());
            }
            for (int[] man : men) {
                h.men.add(man.clone());
            }
            for (int a = 0; a < 7; a++) {
                h.door[a] = door[a].clone();
            }
            h.slate.putAll(slate);
            return h;
        }
    }

    /** PARTS of each ROOM, then OUT, then FOUND. */
    private long[] first(House h) {
        int n = h.rooms.size();
        long[] p = new long[n + 2];
        long all = 0;
        for (int[] room : h.rooms) {
            all += room[2];
        }
        p[n] = MILLION;
        for (int r = 0; r < n && all > 0; r++) {
            p[r] = h.here * 10000L * h.rooms.get(r)[2] / all;
            p[n] -= p[r];
        }
        return p;
    }

    private List<Integer> doors(House h, int room) {
        List<Integer> others = new ArrayList<>();
        for (int o = 0; o < h.rooms.size(); o++) {
            if (h.door[room][o]) {
                others.add(o);
            }
        }
        return others;
    }

    private long[] minute(long[] p, int kept) {
        int n = house.rooms.size();
        long[] next = p.clone();
        for (int r = 0; r < n; r++) {
            List<Integer> others = doors(house, r);
            if (r == kept || others.isEmpty()) {
                continue;
            }
            long leave = p[r] * house.moves / 100;
            for (int o : others) {
                next[o] += leave / others.size();
                next[r] -= leave / others.size();
            }
        }
        return next;
    }

    private long[] call(long[] p, int room, int pence) {
        long[] next = p.clone();
        if (room >= 0) {
            long got = p[room] * hears(room, pence) / 100;
            next[room] -= got;
            next[next.length - 1] += got;
        }
        return next;
    }

    private House house;
    private final List<long[]> states = new ArrayList<>();
    private final House[] imageHouse = new House[3];
    private final List<List<long[]>> imageStates = new ArrayList<>(List.of(List.of(), List.of(), List.of()));
    private final boolean[] imaged = new boolean[3];
    private final StringBuilder tape = new StringBuilder();
    private final long[][] rows = new long[4][];
    private final int[] widths = new int[4];
    private int fault = 0;
    private int faultPlace = -1;

    // Text

    int feed(int a, int b, int c, int d, int e) {
        if (tape.length() > 880) {
            return -1;
        }
        for (int v : new int[] {a, b, c, d, e}) {
            tape.append((char) (v >>> 24)).append((char) (v >>> 16 & 255)).append((char) (v >>> 8 & 255)).append((char) (v & 255));
        }
        return tape.length();
    }

    int end(int n) {
        if (n < 0 || n > tape.length()) {
            return -1;
        }
        tape.setLength(n);
        return n;
    }

    private static final class Fault extends RuntimeException {
        private static final long serialVersionUID = 1;
        final int what;
        final int place;

        Fault(int what, int place) {
            this.what = what;
            this.place = place;
        }
    }

    private final List<String> tokens = new ArrayList<>();
    private final List<Integer> places = new ArrayList<>();
    private int at;

    private void tokenize() {
        tokens.clear();
        places.clear();
        at = 0;
        java.util.regex.Matcher m = java.util.regex.Pattern.compile("[a-z]+|[0-9]+|[^ \n]", java.util.regex.Pattern.DOTALL).matcher(tape);
        while (m.find()) {
            tokens.add(m.group());
            places.add(m.start());
        }
        tokens.add("");
        places.add(tape.length());
    }

    private void want(String token) {
        if (!tokens.get(at).equals(token)) {
            throw new Fault(1, places.get(at));
        }
        at++;
    }

    private int number(int low, int high) {
        String token = tokens.get(at);
        if (!token.matches("[0-9]+")) {
            throw new Fault(1, places.get(at));
        }
        BigInteger v = new BigInteger(token);
        if (v.compareTo(BigInteger.valueOf(low)) < 0 || v.compareTo(BigInteger.valueOf(high)) > 0) {
            throw new Fault(2, places.get(at));
        }
        at++;
        return v.intValue();
    }

    private int named(String word, int low, int high) {
        want(word);
        return number(low, high);
    }

    private void line(House h) {
        if (h.lines == 0) {
            want("house");
            h.moves = named("moves", 0, 100);
            h.here = named("here", 0, 100);
            h.worth = named("worth", 0, 999);
            h.price = named("price", 0, 999);
        } else {
            switch (tokens.get(at)) {
                case "room" -> {
                    if (h.rooms.size() == 7) {
                        throw new Fault(3, places.get(at));
                    }
                    at++;
                    h.rooms.add(new int[] {named("people", 0, 999), named("hears", 0, 100), named("sits", 0, 99)});
                }
                case "door" -> {
                    at++;
                    int a = number(0, h.rooms.size() - 1);
                    int b = number(0, h.rooms.size() - 1);
                    if (a == b) {
                        throw new Fault(2, places.get(at - 1));
                    }
                    h.door[a][b] = true;
                    h.door[b][a] = true;
                }
                case "man" -> {
                    if (h.men.size() == 6) {
                        throw new Fault(3, places.get(at));
                    }
                    at++;
                    int[] man = {named("weighs", 1, 99), 0};
                    if (tokens.get(at).equals("yes")) {
                        at++;
                        do {
                            man[1] |= 1 << number(0, 5);
                        } while (!tokens.get(at).equals(";"));
                    }
                    h.men.add(man);
                }
                case "slate" -> {
                    at++;
                    int m = number(0, h.men.size() - 1);
                    int as = named("as", 0, h.men.size() - 1);
                    h.slate.put(m * 6 + as, number(0, 9));
                }
                default -> throw new Fault(1, places.get(at));
            }
        }
        want(";");
        h.lines++;
    }

    int house() {
        tokenize();
        House h = new House();
        try {
            while (!tokens.get(at).isEmpty()) {
                line(h);
            }
        } catch (Fault f) {
            fault = f.what;
            faultPlace = f.place;
            return -4;
        }
        fault = 0;
        faultPlace = -1;
        tape.setLength(0);
        house = h.lines == 0 ? null : h;
        begin();
        return h.lines;
    }

    private void begin() {
        states.clear();
        if (house != null) {
            states.add(first(house));
        }
    }

    private int roomCount() {
        return house == null ? 0 : house.rooms.size();
    }

    private int manCount() {
        return house == null ? 0 : house.men.size();
    }

    private boolean isRoom(int r) {
        return 0 <= r && r < roomCount();
    }

    private boolean isPlace(int r) {
        return house != null && (r == -1 || isRoom(r));
    }

    private boolean isMan(int m) {
        return 0 <= m && m < manCount();
    }

    private long[] now() {
        return states.get(states.size() - 1);
    }

    int fault(int what) {
        return what == 0 ? fault : what == 1 ? faultPlace : -1;
    }

    int room(int room, int what) {
        if (!isRoom(room) || what < 0 || what > 3) {
            return -2;
        }
        if (what < 3) {
            return house.rooms.get(room)[what];
        }
        int bits = 0;
        for (int o : doors(house, room)) {
            bits += 1 << o;
        }
        return bits;
    }

    int man(int man, int what) {
        return !isMan(man) || what < 0 || what > 1 ? -2 : house.men.get(man)[what];
    }

    int slate(int man, int as) {
        return !isMan(man) || !isMan(as) ? -2 : house.slate.getOrDefault(man * 6 + as, man == as ? 1 : 0);
    }

    int hears(int room, int pence) {
        if (!isRoom(room) || pence < 0 || pence > 9) {
            return -2;
        }
        return 100 - (100 - house.rooms.get(room)[1]) / (1 + pence);
    }

    // Parts

    private long of(long[] p, int room) {
        return room == -1 ? p[p.length - 2] : p[room];
    }

    private long chance(long part, long found) {
        return found == MILLION ? 0 : part * MILLION / (MILLION - found);
    }

    private long hereIn(long[] p) {
        long sum = 0;
        for (int r = 0; r < roomCount(); r++) {
            sum += p[r];
        }
        return chance(sum, p[p.length - 1]);
    }

    int parts(int room) {
        return isPlace(room) ? (int) of(now(), room) : -2;
    }

    int found() {
        return house == null ? -2 : (int) now()[now().length - 1];
    }

    int likely() {
        if (house == null) {
            return -2;
        }
        int best = -1;
        for (int r = roomCount() - 1; r >= 0; r--) {
            best = best == -1 || now()[r] >= now()[best] ? r : best;
        }
        return best;
    }

    int here() {
        return house == null ? -2 : (int) hereIn(now());
    }

    int chance(int room) {
        return isPlace(room) ? (int) chance(of(now(), room), found()) : -2;
    }

    int call(int room) {
        if (!isPlace(room)) {
            return -2;
        }
        if (states.size() == 61) {
            return -5;
        }
        int before = found();
        states.add(minute(call(now(), room, 0), -1));
        return found() - before;
    }

    int undo() {
        if (house == null) {
            return -2;
        }
        if (states.size() == 1) {
            return -5;
        }
        states.remove(states.size() - 1);
        return states.size() - 1;
    }

    int anew() {
        if (house == null) {
            return -2;
        }
        int were = states.size() - 1;
        begin();
        return were;
    }

    int later(int room, int n) {
        if (!isPlace(room) || n < 0 || n > 200) {
            return -2;
        }
        long[] p = now();
        for (int i = 0; i < n; i++) {
            p = minute(p, -1);
        }
        return (int) of(p, room);
    }

    // Rounds

    private int ask(int slot, boolean others, int least) {
        if (slot < 0 || slot > 3 || house == null || !others) {
            return -2;
        }
        if (rows[slot] == null) {
            return -6;
        }
        for (long v : rows[slot]) {
            if (v < least || v >= roomCount()) {
                return -2;
            }
        }
        return 0;
    }

    /** PARTS ahead of each MINUTE of the ROUND, and behind the last. */
    private List<long[]> film(long[] row, int pence) {
        List<long[]> film = new ArrayList<>();
        film.add(now());
        for (long room : row) {
            film.add(minute(call(film.get(film.size() - 1), (int) room, pence), -1));
        }
        return film;
    }

    private long foundBy(List<long[]> film, int minutes) {
        long[] p = film.get(minutes);
        return p[p.length - 1] - found();
    }

    private long gainBy(List<long[]> film, int minutes) {
        return house.worth * foundBy(film, minutes) / MILLION - (long) house.price * minutes;
    }

    int round(int slot) {
        int code = ask(slot, true, -1);
        return code != 0 ? code : (int) foundBy(film(rows[slot], 0), rows[slot].length);
    }

    int behind(int slot, int room) {
        int code = ask(slot, isRoom(room), -1);
        return code != 0 ? code : (int) film(rows[slot], 0).get(rows[slot].length)[room];
    }

    int disturbs(int slot) {
        int code = ask(slot, true, -1);
        if (code != 0) {
            return code;
        }
        int sum = 0;
        for (long r : rows[slot]) {
            sum += r == -1 ? 0 : house.rooms.get((int) r)[0];
        }
        return sum;
    }

    int gain(int slot) {
        int code = ask(slot, true, -1);
        return code != 0 ? code * MILLION : (int) gainBy(film(rows[slot], 0), rows[slot].length);
    }

    int stop(int slot) {
        int code = ask(slot, true, -1);
        if (code != 0) {
            return code;
        }
        List<long[]> film = film(rows[slot], 0);
        int best = rows[slot].length;
        for (int m = best; m >= 0; m--) {
            best = gainBy(film, m) >= gainBy(film, best) ? m : best;
        }
        return best;
    }

    int doubt(int slot, int n) {
        int code = ask(slot, n >= 0 && n <= MILLION, -1);
        if (code != 0) {
            return code;
        }
        List<long[]> film = film(rows[slot], 0);
        for (int i = 0; i < rows[slot].length; i++) {
            if (hereIn(film.get(i)) < n) {
                return i;
            }
        }
        return -1;
    }

    private boolean canGo(long[] row, int room) {
        int at = room;
        for (long r : row) {
            int next = r == -1 ? at : (int) r;
            if (next != at && !house.door[at][next]) {
                return false;
            }
            at = next;
        }
        return true;
    }

    int walks(int slot, int room) {
        int code = ask(slot, isRoom(room), -1);
        return code != 0 ? code : canGo(rows[slot], room) ? 1 : 0;
    }

    int penny(int slot) {
        int code = ask(slot, true, -1);
        if (code != 0) {
            return code;
        }
        int calls = 0;
        for (long r : rows[slot]) {
            calls += r == -1 ? 0 : 1;
        }
        int best = 9;
        long most = Long.MIN_VALUE;
        for (int pence = 9; pence >= 0; pence--) {
            long gain = gainBy(film(rows[slot], pence), rows[slot].length) - (long) pence * calls;
            if (gain >= most) {
                most = gain;
                best = pence;
            }
        }
        return best;
    }

    /** The first of the best of all rows of n ROOMS that a BOY can go; with what it finds. */
    private long[] bestRow(int room, int n) {
        long[] best = null;
        long most = -1;
        int all = (int) Math.round(Math.pow(roomCount(), n));
        for (int code = 0; code < all; code++) {
            long[] row = new long[n];
            int left = code;
            for (int i = n - 1; i >= 0; i--) {
                row[i] = left % roomCount();
                left /= roomCount();
            }
            if (canGo(row, room)) {
                long got = foundBy(film(row, 0), n);
                if (got > most) {
                    most = got;
                    best = row;
                }
            }
        }
        long[] told = java.util.Arrays.copyOf(best, n + 1);
        told[n] = most;
        return told;
    }

    int best(int room, int n) {
        return !isRoom(room) || n < 0 || n > 5 ? -2 : (int) bestRow(room, n)[n];
    }

    int goes(int room, int n, int i) {
        if (!isRoom(room) || n < 0 || n > 5) {
            return -2;
        }
        return i < 0 || i >= n ? -1 : (int) bestRow(room, n)[i];
    }

    int begins(int n) {
        if (roomCount() == 0 || n < 0 || n > 5) {
            return -2;
        }
        int start = 0;
        for (int r = 1; r < roomCount(); r++) {
            start = best(r, n) > best(start, n) ? r : start;
        }
        return start;
    }

    int soon(int room, int n) {
        if (!isRoom(room) || n < 0 || n > MILLION) {
            return -2;
        }
        int m = 0;
        while (m <= 5 && best(room, m) < n) {
            m++;
        }
        return m > 5 ? -1 : m;
    }

    int far(int room, int other) {
        if (!isRoom(room) || !isRoom(other)) {
            return -2;
        }
        int n = roomCount();
        int[][] d = new int[n][n];
        for (int a = 0; a < n; a++) {
            for (int b = 0; b < n; b++) {
                d[a][b] = a == b ? 0 : house.door[a][b] ? 1 : 99;
            }
        }
        for (int k = 0; k < n; k++) {
            for (int a = 0; a < n; a++) {
                for (int b = 0; b < n; b++) {
                    d[a][b] = Math.min(d[a][b], d[a][k] + d[k][b]);
                }
            }
        }
        return d[room][other] >= 99 ? -1 : d[room][other];
    }

    int hangs(int slot) {
        int code = ask(slot, true, -1);
        if (code != 0) {
            return code;
        }
        List<long[]> film = film(rows[slot], 0);
        for (int i = 0; i < rows[slot].length; i++) {
            if (house.worth * (foundBy(film, i + 1) - foundBy(film, i)) / MILLION < house.price) {
                return i;
            }
        }
        return -1;
    }

    int rest() {
        if (house == null) {
            return -2;
        }
        long[] p = now();
        for (int t = 0; t <= 200; t++) {
            long[] next = minute(p, -1);
            if (java.util.Arrays.equals(p, next)) {
                return t;
            }
            p = next;
        }
        return -1;
    }

    int trumpet() {
        return house == null ? -2 : (int) atOnce((1 << roomCount()) - 1)[0];
    }

    /** What is FOUND, and how many are disturbed. */
    private long[] atOnce(int set) {
        long[] sums = new long[2];
        for (int r = 0; r < roomCount(); r++) {
            if ((set & 1 << r) != 0) {
                sums[0] += now()[r] * house.rooms.get(r)[1] / 100;
                sums[1] += house.rooms.get(r)[0];
            }
        }
        return sums;
    }

    private int quietSet(int n) {
        int best = -1;
        for (int set = (1 << roomCount()) - 1; set >= 0; set--) {
            if (atOnce(set)[0] >= n && (best == -1 || atOnce(set)[1] <= atOnce(best)[1])) {
                best = set;
            }
        }
        return best;
    }

    int quiet(int n) {
        if (house == null || n < 0 || n > MILLION) {
            return -2;
        }
        return quietSet(n) == -1 ? -1 : (int) atOnce(quietSet(n))[1];
    }

    int quietly(int n) {
        return house == null || n < 0 || n > MILLION ? -2 : quietSet(n);
    }

    int card(int room, int n) {
        if (!isRoom(room) || n < 0 || n > 200) {
            return -2;
        }
        long[] p = now();
        for (int i = 0; i < n; i++) {
            p = minute(p, room);
        }
        return (int) p[room];
    }

    int desk(int n) {
        if (roomCount() == 0 || n < 0 || n > 200) {
            return -2;
        }
        int best = 0;
        for (int r = 1; r < roomCount(); r++) {
            best = card(r, n) > card(best, n) ? r : best;
        }
        return best;
    }

    // Chase: the MINUTES still needed from every state, made smaller until nothing changes.

    private int spread(int set) {
        int wide = set;
        for (int a = 0; a < roomCount(); a++) {
            for (int b : doors(house, a)) {
                wide |= (set >> a & 1) << b;
            }
        }
        return wide;
    }

    private boolean step(int a, int b) {
        return a == b || house.door[a][b];
    }

    private int[][][] needed(boolean single) {
        int n = roomCount();
        int[][][] need = new int[n][n][1 << n];
        for (int[][] plane : need) {
            for (int[] line : plane) {
                java.util.Arrays.fill(line, 9999);
                line[0] = 0;
            }
        }
        boolean changed = true;
        while (changed) {
            changed = false;
            for (int set = 1; set < 1 << n; set++) {
                int wide = spread(set);
                for (int a = 0; a < n; a++) {
                    for (int b = single ? a : 0; b < (single ? a + 1 : n); b++) {
                        int least = need[a][b][set];
                        for (int c = 0; c < n; c++) {
                            for (int d = 0; step(a, c) && d < n; d++) {
                                if (single ? d == c : step(b, d)) {
                                    least = Math.min(least, 1 + need[c][d][wide & ~(1 << c) & ~(1 << d)]);
                                }
                            }
                        }
                        changed |= least < need[a][b][set];
                        need[a][b][set] = least;
                    }
                }
            }
        }
        return need;
    }

    private int atStart(int a, int b) {
        return (1 << roomCount()) - 1 & ~(1 << a) & ~(1 << b);
    }

    int one(int room) {
        if (!isRoom(room)) {
            return -2;
        }
        int need = needed(true)[room][room][atStart(room, room)];
        return need >= 9999 ? -1 : need;
    }

    int two(int room, int other) {
        if (!isRoom(room) || !isRoom(other)) {
            return -2;
        }
        int need = needed(false)[room][other][atStart(room, other)];
        return need >= 9999 ? -1 : need;
    }

    int way(int room, int other, int boy, int i) {
        if (!isRoom(room) || !isRoom(other) || boy < 0 || boy > 1) {
            return -2;
        }
        int[][][] need = needed(false);
        int a = room;
        int b = other;
        int set = atStart(a, b);
        if (need[a][b][set] >= 9999 || i < 0 || i >= need[a][b][set]) {
            return -1;
        }
        for (int m = 0; m <= i; m++) {
            int wide = spread(set);
            int next = -1;
            for (int key = 0; key < 70 && next == -1; key++) {
                int c = key / 10;
                int d = key % 10;
                if (isRoom(c) && isRoom(d) && step(a, c) && step(b, d)
                        && need[c][d][wide & ~(1 << c) & ~(1 << d)] == need[a][b][set] - 1) {
                    next = key;
                }
            }
            a = next / 10;
            b = next % 10;
            set = wide & ~(1 << a) & ~(1 << b);
        }
        return boy == 0 ? a : b;
    }

    int slips(int slot, int room) {
        int code = ask(slot, isRoom(room), -1);
        if (code != 0) {
            return code;
        }
        if (!canGo(rows[slot], room)) {
            return -5;
        }
        int at = room;
        int set = atStart(room, room);
        for (long r : rows[slot]) {
            at = r == -1 ? at : (int) r;
            set = spread(set) & ~(1 << at);
        }
        return set;
    }

    int boys() {
        if (roomCount() == 0) {
            return -2;
        }
        for (int r = 0; r < roomCount(); r++) {
            if (one(r) >= 0) {
                return 1;
            }
        }
        return pairs() > 0 ? 2 : 3;
    }

    int pairs() {
        if (roomCount() == 0) {
            return -2;
        }
        int[][][] need = needed(false);
        int sum = 0;
        for (int a = 0; a < roomCount(); a++) {
            for (int b = a; b < roomCount(); b++) {
                sum += need[a][b][atStart(a, b)] < 9999 ? 1 : 0;
            }
        }
        return sum;
    }

    // Men

    private boolean isSet(int set) {
        return set >= 1 && set < 1 << manCount();
    }

    private int sayYes(int set, int q) {
        int who = 0;
        for (int m = 0; m < manCount(); m++) {
            who |= (set >> m & house.men.get(m)[1] >> q & 1) << m;
        }
        return who;
    }

    /** Fewest QUESTIONS with q first (-1: any); 99: they can't. */
    private int fewest(int set, int q) {
        if (q == -1) {
            int least = Integer.bitCount(set) == 1 ? 0 : 99;
            for (int first = 0; first < 6; first++) {
                least = Math.min(least, fewest(set, first));
            }
            return least;
        }
        int who = sayYes(set, q);
        if (who == 0 || who == set) {
            return 99;
        }
        return Math.min(99, 1 + Math.max(fewest(who, -1), fewest(set - who, -1)));
    }

    int which(int set) {
        if (!isSet(set)) {
            return -2;
        }
        int n = fewest(set, -1);
        return n >= 99 ? -1 : n;
    }

    int question(int set) {
        if (!isSet(set)) {
            return -2;
        }
        int n = which(set);
        for (int q = 0; q < 6 && n > 0; q++) {
            if (fewest(set, q) == n) {
                return q;
            }
        }
        return -1;
    }

    int yes(int set, int q) {
        return !isSet(set) || q < 0 || q > 5 ? -2 : sayYes(set, q);
    }

    int list(int set) {
        if (!isSet(set)) {
            return -2;
        }
        for (int size = 0; size <= 6; size++) {
            for (int qs = 0; qs < 64; qs++) {
                java.util.Set<Integer> answers = new java.util.HashSet<>();
                for (int m = 0; m < manCount(); m++) {
                    if ((set >> m & 1) == 1) {
                        answers.add(house.men.get(m)[1] & qs);
                    }
                }
                if (Integer.bitCount(qs) == size && answers.size() == Integer.bitCount(set)) {
                    return qs;
                }
            }
        }
        return -1;
    }

    private BigInteger[] fraction(BigInteger above, BigInteger below) {
        if (above.signum() == 0) {
            return new BigInteger[] {BigInteger.ZERO, BigInteger.ONE};
        }
        BigInteger g = above.gcd(below);
        return new BigInteger[] {above.divide(g), below.divide(g)};
    }

    private BigInteger[] plus(BigInteger[] a, BigInteger[] b) {
        return fraction(a[0].multiply(b[1]).add(b[0].multiply(a[1])), a[1].multiply(b[1]));
    }

    int meant(int set, int man, int what) {
        if (!isSet(set) || !isMan(man) || (set >> man & 1) == 0 || what < 0 || what > 1) {
            return -2;
        }
        int all = 0;
        for (int m = 0; m < manCount(); m++) {
            all += (set >> m & 1) * house.men.get(m)[0];
        }
        return fraction(BigInteger.valueOf(house.men.get(man)[0]), BigInteger.valueOf(all))[what].intValueExact();
    }

    /** How much a MAN weighs by how often he is read so. */
    private BigInteger[] readSo(int man, int as) {
        int all = 0;
        for (int a = 0; a < manCount(); a++) {
            all += slate(man, a);
        }
        int has = all == 0 ? (man == as ? 1 : 0) : slate(man, as);
        return fraction(BigInteger.valueOf((long) house.men.get(man)[0] * has), BigInteger.valueOf(Math.max(1, all)));
    }

    private BigInteger[] allReadSo(int as) {
        BigInteger[] sum = fraction(BigInteger.ZERO, BigInteger.ONE);
        for (int m = 0; m < manCount(); m++) {
            sum = plus(sum, readSo(m, as));
        }
        return sum;
    }

    private BigInteger[] by(BigInteger[] a, BigInteger[] b) {
        return b[0].signum() == 0 ? fraction(BigInteger.ZERO, BigInteger.ONE) : fraction(a[0].multiply(b[1]), a[1].multiply(b[0]));
    }

    long read(int man, int as, int what) {
        if (!isMan(man) || !isMan(as) || what < 0 || what > 1) {
            return -2;
        }
        return by(readSo(man, as), allReadSo(as))[what].longValueExact();
    }

    int guess(int as) {
        if (!isMan(as)) {
            return -2;
        }
        int best = -1;
        BigInteger[] most = fraction(BigInteger.ZERO, BigInteger.ONE);
        for (int m = 0; m < manCount(); m++) {
            BigInteger[] so = readSo(m, as);
            if (so[0].multiply(most[1]).compareTo(most[0].multiply(so[1])) > 0) {
                most = so;
                best = m;
            }
        }
        return best;
    }

    long right(int what) {
        if (manCount() == 0 || what < 0 || what > 1) {
            return -2;
        }
        BigInteger[] sum = fraction(BigInteger.ZERO, BigInteger.ONE);
        long all = 0;
        for (int m = 0; m < manCount(); m++) {
            sum = plus(sum, readSo(m, m));
            all += house.men.get(m)[0];
        }
        return by(sum, fraction(BigInteger.valueOf(all), BigInteger.ONE))[what].longValueExact();
    }

    // Habits, evenings

    private int most(int[] times) {
        int best = -1;
        for (int r = times.length - 1; r >= 0; r--) {
            if (times[r] > 0 && (best == -1 || times[r] >= times[best])) {
                best = r;
            }
        }
        return best;
    }

    int habit(int slot) {
        int code = ask(slot, true, 0);
        if (code != 0) {
            return code;
        }
        int[] times = new int[roomCount()];
        for (long r : rows[slot]) {
            times[(int) r]++;
        }
        return most(times);
    }

    int follows(int slot, int room) {
        int code = ask(slot, isRoom(room), 0);
        if (code != 0) {
            return code;
        }
        int[] times = new int[roomCount()];
        for (int i = 1; i < rows[slot].length; i++) {
            times[(int) rows[slot][i]] += rows[slot][i - 1] == room ? 1 : 0;
        }
        return most(times);
    }

    int period(int slot) {
        int code = ask(slot, true, 0);
        if (code != 0) {
            return code;
        }
        StringBuilder s = new StringBuilder();
        for (long r : rows[slot]) {
            s.append((char) ('a' + r));
        }
        for (int p = 1; p <= s.length(); p++) {
            if (s.substring(p).equals(s.substring(0, s.length() - p))) {
                return p;
            }
        }
        return -1;
    }

    private BigInteger x;

    private int draw(int n) {
        x = x.multiply(BigInteger.valueOf(1103515245)).add(BigInteger.valueOf(12345)).mod(BigInteger.ONE.shiftLeft(31));
        return x.shiftRight(16).mod(BigInteger.valueOf(n)).intValue();
    }

    private int[] evening(long seed, long[] row) {
        x = BigInteger.valueOf(seed);
        List<Integer> seats = new ArrayList<>();
        for (int r = 0; r < roomCount(); r++) {
            for (int s = 0; s < house.rooms.get(r)[2]; s++) {
                seats.add(r);
            }
        }
        if (draw(100) >= house.here || seats.isEmpty()) {
            return new int[] {-1, -1};
        }
        int at = seats.get(draw(seats.size()));
        for (int i = 0; i < row.length; i++) {
            if (row[i] == at && draw(100) < house.rooms.get(at)[1]) {
                return new int[] {i, at};
            }
            List<Integer> others = doors(house, at);
            if (!others.isEmpty() && draw(100) < house.moves) {
                at = others.get(draw(others.size()));
            }
        }
        return new int[] {-1, at};
    }

    int drawn(int seed, int slot, int what) {
        int code = ask(slot, seed >= 0 && seed <= 2000000000 && (what == 0 || what == 1), -1);
        return code != 0 ? code : evening(seed, rows[slot])[what];
    }

    int lot(int seed, int slot, int n) {
        int code = ask(slot, seed >= 0 && seed <= 2000000000 && n >= 1 && n <= 20, -1);
        if (code != 0) {
            return code;
        }
        int sum = 0;
        for (long s = seed; s < (long) seed + n; s++) {
            sum += evening(s, rows[slot])[0] >= 0 ? 1 : 0;
        }
        return sum;
    }

    // The rest

    int tell(int room, int what, int n) {
        int[] most = {999, 100, 99};
        if (!isRoom(room) || what < 0 || what > 2 || n < 0 || n > most[what]) {
            return -2;
        }
        if (states.size() > 1) {
            return -5;
        }
        int was = house.rooms.get(room)[what];
        house.rooms.get(room)[what] = n;
        begin();
        return was;
    }

    int shut(int room, int other, int is) {
        if (!isRoom(room) || !isRoom(other) || room == other || is < 0 || is > 1) {
            return -2;
        }
        if (states.size() > 1) {
            return -5;
        }
        boolean was = house.door[room][other];
        house.door[room][other] = is == 1;
        house.door[other][room] = is == 1;
        return was ? 1 : 0;
    }

    int count(int what) {
        int doors = 0;
        int people = 0;
        for (int r = 0; r < roomCount(); r++) {
            people += house.rooms.get(r)[0];
            for (int o = 0; o < r; o++) {
                doors += house.door[r][o] ? 1 : 0;
            }
        }
        int made = 0;
        for (long[] row : rows) {
            made += row == null ? 0 : 1;
        }
        int[] all = {roomCount(), doors, manCount(), people, house == null ? 0 : house.lines, tape.length(),
            Math.max(0, states.size() - 1), made};
        return what < 0 || what > 7 ? -1 : all[what];
    }

    int image(int k) {
        if (k < 0 || k > 2) {
            return -2;
        }
        imaged[k] = true;
        imageHouse[k] = house == null ? null : house.copy();
        imageStates.set(k, List.copyOf(states));
        return 0;
    }

    int back(int k) {
        if (k < 0 || k > 2) {
            return -2;
        }
        if (!imaged[k]) {
            return -6;
        }
        house = imageHouse[k] == null ? null : imageHouse[k].copy();
        states.clear();
        states.addAll(imageStates.get(k));
        return 0;
    }

    int row(int slot, int width, int n) {
        if (slot < 0 || slot > 3 || width < 0 || width > 3 || n > 60) {
            return -2;
        }
        if (n < 0) {
            return -3;
        }
        rows[slot] = new long[n];
        widths[slot] = width;
        return 0;
    }

    int write(int slot, int i, long v) {
        if (slot < 0 || slot > 3) {
            return -2;
        }
        if (rows[slot] == null) {
            return -6;
        }
        if (i < 0 || i >= rows[slot].length) {
            return -7;
        }
        int gone = 64 - 8 * (1 << widths[slot]);
        rows[slot][i] = v << gone >> gone;
        return 0;
    }

    int paste(int slot, int i, int to, int k, int n) {
        if (slot < 0 || slot > 3 || to < 0 || to > 3) {
            return -2;
        }
        if (rows[slot] == null || rows[to] == null) {
            return -6;
        }
        if (widths[slot] != widths[to]) {
            return -8;
        }
        if (i < 0 || k < 0 || n < 0 || (long) i + n > rows[slot].length || (long) k + n > rows[to].length) {
            return -7;
        }
        long[] were = rows[slot].clone();
        for (int m = 0; m < n; m++) {
            rows[to][k + m] = were[i + m];
        }
        return 0;
    }
}
