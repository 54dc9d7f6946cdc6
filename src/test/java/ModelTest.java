import java.lang.reflect.Method;
import java.util.ArrayList;
import java.util.Comparator;
import java.util.HashMap;
import java.util.List;
import java.util.Map;
import java.util.Random;

/** Long runs of calls of all sorts, on the class and on the Model of the tests; seeds are fixed. */
public final class ModelTest {
    private static final int RUNS = 600;
    /** Behind so many calls what an object answers is free. */
    private static final int CALLS = 512;
    /** What each argument is: r a ROOM, o or NONE, m a MAN, S a set, s a SLOT, n MINUTES, M of a million, 2 below two .. */
    private static final Map<String, String> ARGUMENTS = new HashMap<>();
    private static final List<Method> FACE = new ArrayList<>();
    private static final List<Method> MODEL = new ArrayList<>();

    private final Random random;
    private CallForBrown x = new CallForBrown();
    private Model model = new Model();
    private int made;
    private final StringBuilder told = new StringBuilder();

    private ModelTest(long seed) {
        random = new Random(seed);
    }

    private static void readArguments() {
        String all = "feed 99999 end T house - fault 2 room r4 man m2 slate mm hears r9 parts o found - likely - here - "
                + "chance o call o undo - anew - later on round s behind sr disturbs s gain s stop s doubt sM walks sr "
                + "penny s best rb goes rbb begins b soon rM far rr hangs s rest - trumpet - quiet M quietly M card rn "
                + "desk n one r two rr way rr2b slips sr boys - pairs - which S question S yes S6 list S meant Sm2 "
                + "read mm2 guess m right 2 habit s follows sr period s drawn ts2 lot tsl tell r3t shut rr2 count 8 "
                + "image 3 back 3 row s4l write sib paste sisii";
        String[] words = all.split(" ");
        for (int i = 0; i < words.length; i += 2) {
            ARGUMENTS.put(words[i], words[i + 1]);
        }
    }

    public static void main(String[] args) throws Exception {
        readArguments();
        for (Method method : CallForBrown.class.getDeclaredMethods()) {
            if (java.lang.reflect.Modifier.isPublic(method.getModifiers())) {
                FACE.add(method);
            }
        }
        FACE.sort(Comparator.comparing(Method::getName));
        for (Method method : FACE) {
            Method same = Model.class.getDeclaredMethod(method.getName(), method.getParameterTypes());
            same.setAccessible(true);
            MODEL.add(same);
        }
        for (int run = 0; run < RUNS; run++) {
            new ModelTest(run).go(run);
        }
        Check.finish();
    }

    private void go(int run) throws Exception {
        texts(run % 10 == 0 ? 25 : 3);
        while (made < CALLS - 100) {
            int which = random.nextInt(FACE.size());
            String name = FACE.get(which).getName();
            boolean rare = name.equals("house") || name.equals("end") || name.equals("anew");
            boolean dear = name.equals("begins") || name.equals("soon");
            if (random.nextInt(20) == 0) {
                rows();
            }
            if (rare && random.nextInt(15) != 0 || dear && random.nextInt(5) != 0) {
                continue;
            }
            both(which, run);
        }
    }

    private void both(int which, int run) throws Exception {
        made++;
        Method method = FACE.get(which);
        Object[] args = new Object[method.getParameterCount()];
        StringBuilder call = new StringBuilder("run " + run + " " + told + ": " + method.getName() + "(");
        for (int i = 0; i < args.length; i++) {
            boolean wide = method.getParameterTypes()[i] == long.class;
            int number = number(method.getName(), i);
            args[i] = wide ? (Object) (long) number : (Object) number;
            call.append(i == 0 ? "" : ", ").append(number);
        }
        long got = ((Number) method.invoke(x, args)).longValue();
        long want = ((Number) MODEL.get(which).invoke(model, args)).longValue();
        Check.due(call.append(")").toString(), got, want);
    }

    /** Mostly a number that there is, else an edge. */
    private int number(String name, int i) {
        if (random.nextInt(25) == 0) {
            int[] edges = {Integer.MIN_VALUE, Integer.MAX_VALUE, -2, -1, 4, 6, 7, 10, 20, 21, 60, 61, 63, 64, 99, 100, 101,
                200, 201, 999, 1000, 1000000, 1000001, 2000000000, 2000000001};
            return edges[random.nextInt(edges.length)];
        }
        int rooms = Math.max(1, model.count(0));
        switch (ARGUMENTS.get(name).charAt(i)) {
            case 'r':
                return random.nextInt(rooms);
            case 'o':
                return random.nextInt(rooms + 1) - 1;
            case 'm':
                return random.nextInt(Math.max(1, model.count(2)));
            case 'S':
                return 1 + random.nextInt(Math.max(1, (1 << model.count(2)) - 1));
            case 's':
                return random.nextInt(4);
            case 'n':
                return random.nextBoolean() ? random.nextInt(5) : random.nextInt(201);
            case 'M':
                return millionth();
            case 't':
                return random.nextInt(100);
            case 'T':
                return random.nextInt(920);
            case 'b':
                return random.nextInt(6);
            case 'l':
                return 1 + random.nextInt(20);
            case 'i':
                return random.nextInt(8);
            default:
                return random.nextInt(ARGUMENTS.get(name).charAt(i) - '0');
        }
    }

    private int millionth() {
        switch (random.nextInt(4)) {
            case 0:
                return random.nextInt(1000001);
            case 1:
                return Math.max(0, model.here() + random.nextInt(3) - 1);
            case 2:
                return Math.max(0, model.best(random.nextInt(Math.max(1, model.count(0))), random.nextInt(6)) + random.nextInt(3) - 1);
            default:
                return Math.max(0, model.trumpet() / (1 + random.nextInt(3)) + random.nextInt(3) - 1);
        }
    }

    /** A row that mostly can be gone, so that more is asked than codes. */
    private void rows() {
        int slot = random.nextInt(4);
        int width = random.nextInt(4);
        int n = random.nextInt(3) == 0 ? random.nextInt(61) : random.nextInt(7);
        made += n + 1;
        x.row(slot, width, n);
        model.row(slot, width, n);
        int least = random.nextBoolean() ? 0 : -1;
        int rooms = Math.max(1, model.count(0));
        int at = random.nextInt(rooms);
        for (int i = 0; i < n; i++) {
            int next = random.nextInt(rooms - least) + least;
            boolean step = next == -1 || next == at || model.far(at, next) == 1;
            int v = step || random.nextInt(20) == 0 ? next : at;
            at = v == -1 ? at : v;
            x.write(slot, i, v);
            model.write(slot, i, v);
        }
    }

    private void texts(int times) {
        for (int i = 0; i < times; i++) {
            String text = text();
            if (times > 3 && random.nextInt(4) != 0) {
                text = spoilt(text);
            }
            told.setLength(0);
            told.append(text);
            if (made > CALLS / 4) {
                x = new CallForBrown();
                model = new Model();
                made = 0;
            }
            made += (text.length() + 19) / 20 + 5;
            Check.put(x, text);
            put(text);
            Check.due("house() of " + text, x.house(), model.house());
            Check.due("fault(0) of " + text, x.fault(0), model.fault(0));
            Check.due("fault(1) of " + text, x.fault(1), model.fault(1));
        }
    }

    private void put(String text) {
        model.end(0);
        for (int from = 0; from < text.length(); from += 20) {
            int[] five = new int[5];
            for (int k = 0; k < 20; k++) {
                int place = from + k;
                five[k / 4] = five[k / 4] << 8 | (place < text.length() ? text.charAt(place) & 255 : 0);
            }
            model.feed(five[0], five[1], five[2], five[3], five[4]);
        }
        model.end(text.length());
    }

    private int pick(int most) {
        int[] some = {0, 1, most, random.nextInt(most + 1), random.nextInt(most + 1), random.nextInt(most + 1)};
        return some[random.nextInt(some.length)];
    }

    private String text() {
        StringBuilder s = new StringBuilder("house moves " + pick(100) + " here " + pick(100) + " worth " + pick(999)
                + " price " + (random.nextBoolean() ? pick(9) : pick(999)) + ";");
        int rooms = random.nextInt(8);
        for (int r = 0; r < rooms; r++) {
            s.append("\nroom people ").append(pick(random.nextBoolean() ? 3 : 999)).append(" hears ").append(pick(100))
                    .append(" sits ").append(pick(random.nextBoolean() ? 3 : 99)).append(";");
        }
        boolean tree = random.nextBoolean();
        for (int r = 1; tree && r < rooms; r++) {
            s.append(" door ").append(random.nextInt(r)).append(' ').append(r).append(";");
        }
        int doors = rooms < 2 || tree ? 0 : random.nextInt(2 * rooms);
        for (int d = 0; d < doors; d++) {
            int a = random.nextInt(rooms);
            int b = random.nextInt(rooms);
            if (a != b) {
                s.append(" door ").append(a).append(' ').append(b).append(";");
            }
        }
        int men = random.nextInt(7);
        for (int m = 0; m < men; m++) {
            s.append("\nman weighs ").append(1 + pick(98));
            int questions = random.nextInt(4);
            for (int q = 0; q < questions; q++) {
                s.append(q == 0 ? " yes " : " ").append(random.nextInt(6));
            }
            s.append(";");
        }
        int slates = men == 0 ? 0 : random.nextInt(10);
        for (int i = 0; i < slates && s.length() < 870; i++) {
            s.append("slate ").append(random.nextInt(men)).append(" as ").append(random.nextInt(men)).append(' ')
                    .append(pick(9)).append(";");
        }
        return s.length() > 900 ? s.substring(0, 900) : s.toString();
    }

    private String spoilt(String text) {
        StringBuilder s = new StringBuilder(text);
        int place = random.nextInt(s.length());
        String signs = "az09; \nZ\t\0\u00ff-";
        char sign = signs.charAt(random.nextInt(signs.length()));
        switch (random.nextInt(5)) {
            case 0:
                s.deleteCharAt(place);
                break;
            case 1:
                s.setCharAt(place, sign);
                break;
            case 2:
                s.setLength(place);
                break;
            case 3:
                s.insert(place, s.substring(0, Math.min(s.length(), random.nextInt(60))));
                break;
            default:
                s.insert(place, sign);
                break;
        }
        return s.length() > 900 ? s.substring(0, 900) : s.toString();
    }
}
