import java.lang.reflect.Method;
import java.nio.charset.StandardCharsets;
import java.util.ArrayList;
import java.util.Comparator;
import java.util.List;
import java.util.Random;

/** Long runs of drawn calls on drawn squares: the class has to answer each as the Oracle does. */
public final class OracleTest {
    private static final int RUNS = 400;
    private static final int STEPS = 300;
    /** What an object answers behind so many calls is free. */
    private static final int MOST_CALLS = 512;
    private static int wrong;
    private static Random random;
    private static TurnedStatues real;
    private static Oracle oracle;
    private static List<String> log;
    private static int calls;

    public static void main(String[] args) throws Exception {
        int runs = args.length > 0 ? Integer.parseInt(args[0]) : RUNS;
        int first = args.length > 1 ? Integer.parseInt(args[1]) : 0;
        List<Method> methods = new ArrayList<>();
        for (Method m : TurnedStatues.class.getDeclaredMethods()) {
            if (java.lang.reflect.Modifier.isPublic(m.getModifiers()) && !m.getName().equals("feed")
                    && !m.getName().equals("square")) {
                methods.add(m);
            }
        }
        methods.sort(Comparator.comparing(Method::getName));
        for (int run = first; run < first + runs && wrong < 5; run++) {
            random = new Random(run);
            real = new TurnedStatues();
            oracle = new Oracle();
            log = new ArrayList<>();
            calls = 0;
            int had = wrong;
            tell(run);
            for (int i = 0; i < STEPS && wrong == had; i++) {
                int what = random.nextInt(80);
                if (what == 0) {
                    tell(run);
                } else if (what < 8) {
                    fillTray(run);
                } else {
                    Method m = methods.get(random.nextInt(methods.size()));
                    boolean heavy = List.of("seen", "writer", "frees", "still", "reach").contains(m.getName());
                    if (!heavy || random.nextInt(3) == 0) {
                        call(run, m, arguments(m));
                    }
                }
            }
        }
        System.out.println(wrong == 0 ? "as the oracle says" : wrong + " runs are not as the oracle says");
        System.exit(wrong == 0 ? 0 : 1);
    }

    private static long call(int run, Method m, Object... args) throws Exception {
        if (calls >= MOST_CALLS) {
            return 0;
        }
        calls++;
        Method other = Oracle.class.getDeclaredMethod(m.getName(), m.getParameterTypes());
        long got = ((Number) m.invoke(real, args)).longValue();
        long want = ((Number) other.invoke(oracle, args)).longValue();
        log.add(m.getName() + java.util.Arrays.toString(args) + " -> " + got);
        if (got != want) {
            wrong++;
            System.out.println("run " + run + ": the oracle says " + want);
            for (String line : log.subList(Math.max(0, log.size() - 40), log.size())) {
                System.out.println("   " + line);
            }
        }
        return got;
    }

    private static Method method(String name) {
        for (Method m : TurnedStatues.class.getDeclaredMethods()) {
            if (m.getName().equals(name)) {
                return m;
            }
        }
        throw new IllegalStateException(name);
    }

    private static void tell(int run) throws Exception {
        byte[] text = (random.nextInt(4) == 0 ? spoilt(text()) : text()).getBytes(StandardCharsets.ISO_8859_1);
        log.add(new String(text, StandardCharsets.ISO_8859_1));
        int[] five = new int[5];
        for (int i = 0; i < text.length; i += 20) {
            for (int j = 0; j < 5; j++) {
                five[j] = 0;
                for (int b = 0; b < 4; b++) {
                    int at = i + 4 * j + b;
                    five[j] = five[j] << 8 | (at < text.length ? text[at] & 255 : random.nextInt(256));
                }
            }
            call(run, method("feed"), five[0], five[1], five[2], five[3], five[4]);
        }
        int n = random.nextInt(12) == 0 ? random.nextInt(950) - 10 : Math.min(text.length, 900);
        call(run, method("square"), n);
        for (int what = 0; what < 2; what++) {
            call(run, method("fault"), what);
        }
    }

    private static void fillTray(int run) throws Exception {
        int statues = oracle.count(2);
        boolean seen = random.nextBoolean();
        int tray = random.nextInt(4);
        int n = seen ? statues : random.nextInt(12);
        call(run, method("numbers"), tray, seen ? random.nextInt(4) : 1 + random.nextInt(3), n);
        int n2 = random.nextInt(12);
        for (int i = 0; i < n; i++) {
            long v;
            if (seen) {
                v = random.nextInt(3) > 0 ? -1 : random.nextInt(40) == 0 ? 8 : oracle.later(i, n2, 0);
            } else {
                v = deed();
            }
            call(run, method("write"), tray, i, v);
        }
    }

    private static long deed() {
        int s = random.nextInt(random.nextInt(10) == 0 ? 10 : Math.max(1, oracle.count(2)));
        switch (random.nextInt(6)) {
            case 0:
                return 10 * s + random.nextInt(random.nextInt(10) == 0 ? 10 : Math.max(1, oracle.count(2)));
            case 1:
                return 100 + s;
            case 2:
                return 200 + s;
            case 3:
                return 1000 + 100 * s + random.nextInt(random.nextInt(10) == 0 ? 100 : 64);
            case 4:
                return random.nextInt(30) == 0 ? random.nextLong() : -1;
            default:
                return random.nextInt(60) == 0 ? random.nextInt(2200) : -1;
        }
    }

    private static Object[] arguments(Method m) {
        Object[] args = new Object[m.getParameterCount()];
        String name = m.getName();
        int statues = Math.max(1, oracle.count(2));
        int stones = Math.max(1, oracle.count(0) * oracle.count(1));
        for (int i = 0; i < args.length; i++) {
            if (m.getParameterTypes()[i] == long.class) {
                args[i] = random.nextInt(3) == 0 ? random.nextLong() : random.nextInt(12) - 3L;
                continue;
            }
            int small = random.nextInt(5);
            int value;
            if (random.nextInt(25) == 0) {
                int[] wild = {-1, -2, 8, 9, 64, 100, 201, 41, 61, 21, 40, 60, 200, 20, Integer.MAX_VALUE, Integer.MIN_VALUE};
                value = wild[random.nextInt(wild.length)];
            } else if (name.equals("month")) {
                value = i == 0 ? random.nextInt() : random.nextInt(10);
            } else if (List.of("stone", "watchers", "freeIn", "blocks", "takeDown", "reconcile", "way", "step", "reach",
                    "ways", "frees").contains(name) && i == 0 || List.of("way", "step", "ways").contains(name) && i == 1
                    || name.equals("up") && i == 1) {
                value = random.nextInt(3) > 0 ? stone(stones) : random.nextInt(stones);
            } else if (List.of("statue", "look", "towards", "letter", "peace", "down", "up", "later", "facing",
                    "ringOf").contains(name) && i == 0 || name.equals("letter")) {
                value = random.nextInt(statues);
            } else if (name.equals("reach") || name.equals("ways")) {
                value = random.nextInt(14);
            } else if (name.equals("later") && i == 1) {
                value = random.nextInt(20);
            } else if (name.equals("count")) {
                value = random.nextInt(13);
            } else if (name.equals("nights") || name.equals("undo")) {
                value = 1 + random.nextInt(3);
            } else if (name.equals("numbers") && i == 2) {
                value = random.nextInt(12);
            } else {
                value = random.nextInt(8) == 0 ? random.nextInt(12) : small;
            }
            args[i] = value;
        }
        return args;
    }

    /** Rather one UNDER a LOOK than another. */
    private static int stone(int stones) {
        long under = oracle.under();
        int k = random.nextInt(stones);
        for (int i = 0; i < 8 && (under >>> k & 1) == 0; i++) {
            k = random.nextInt(stones);
        }
        return k;
    }

    private static String spoilt(String text) {
        StringBuilder b = new StringBuilder(text);
        for (int n = random.nextInt(3); n >= 0 && b.length() > 0; n--) {
            int at = random.nextInt(b.length());
            String[] bits = {";", ":", "not ", "[", "(", ")", "]", "1", "8", " 5 ", "stones", "$", "\n", "and", " x", "=", "A",
                "\u00e4", "\t", "statue ", " 0"};
            switch (random.nextInt(3)) {
                case 0:
                    b.deleteCharAt(at);
                    break;
                case 1:
                    b.insert(at, bits[random.nextInt(bits.length)]);
                    break;
                default:
                    b.setCharAt(at, bits[random.nextInt(bits.length)].charAt(0));
            }
        }
        return b.length() > 900 ? b.substring(0, 900) : b.toString();
    }

    private static String text() {
        StringBuilder b = new StringBuilder();
        if (random.nextInt(30) == 0) {
            return random.nextBoolean() ? "" : "rest: 1 = 1; snow 0 for 5;";
        }
        if (random.nextInt(4) == 0) {
            b.append(law());
        }
        int wide = 2 + random.nextInt(7);
        int high = 2 + random.nextInt(7);
        if (random.nextInt(8) == 0) {
            wide = 8;
            high = 8;
        }
        b.append("stones ").append(wide).append(' ').append(high).append(";");
        List<Integer> free = new ArrayList<>();
        for (int k = 0; k < wide * high; k++) {
            free.add(k);
        }
        java.util.Collections.shuffle(free, random);
        int statues = Math.min(free.size(), random.nextInt(9));
        for (int s = 0; s < statues; s++) {
            int k = free.remove(0);
            b.append("statue ").append(k % wide).append(' ').append(k / wide).append(" looks ").append(random.nextInt(8));
            if (s > 0 && random.nextInt(4) > 0) {
                b.append(" at ").append(random.nextInt(s));
            }
            b.append(random.nextBoolean() ? ";" : " ;\n");
        }
        for (int i = random.nextInt(6); i > 0 && !free.isEmpty(); i--) {
            int k = free.remove(0);
            b.append(random.nextBoolean() ? "wall " : "fountain ").append(k % wide).append(' ').append(k / wide).append(";");
        }
        for (int i = random.nextInt(6); i > 0 && statues > 1; i--) {
            int from = random.nextInt(statues);
            int to = (from + 1 + random.nextInt(statues - 1)) % statues;
            int night = random.nextInt(3) == 0 ? 0 : random.nextInt(20) == 0 ? 190 + random.nextInt(20) : random.nextInt(12);
            if (random.nextInt(3) == 0) {
                b.append("peace ").append(night).append(" from ").append(from).append(";");
            } else {
                b.append("letter ").append(night).append(" from ").append(from).append(" to ").append(to).append(";");
            }
        }
        if (random.nextBoolean()) {
            b.append("snow ").append(random.nextInt(10)).append(" for ").append(1 + random.nextInt(4)).append(";");
        }
        if (random.nextInt(3) > 0) {
            b.append(law());
        }
        return b.length() > 900 ? b.substring(0, 900) : b.toString();
    }

    private static String law() {
        return "rest: " + truth(random.nextInt(3)) + ";";
    }

    private static String truth(int depth) {
        switch (random.nextInt(depth > 0 ? 6 : 2)) {
            case 2:
                return "not " + truth(depth - 1);
            case 3:
                return "[" + truth(depth - 1) + "]";
            case 4:
                return truth(depth - 1) + " and " + truth(depth - 1);
            case 5:
                return truth(depth - 1) + " or " + truth(depth - 1);
            default:
                return sum(depth) + "=<>".charAt(random.nextInt(3)) + sum(depth);
        }
    }

    private static String sum(int depth) {
        String[] atoms = {"night", "week", "me", "dir", "off", "x", "y", "foes", "2", "3", "999"};
        switch (random.nextInt(depth > 0 ? 8 : 4)) {
            case 4:
                return sum(depth - 1) + " + " + sum(depth - 1);
            case 5:
                return sum(depth - 1) + "-" + sum(depth - 1);
            case 6:
                return sum(depth - 1) + "*" + sum(depth - 1);
            case 7:
                return "(" + sum(depth - 1) + ")";
            default:
                return atoms[random.nextInt(atoms.length)];
        }
    }
}
