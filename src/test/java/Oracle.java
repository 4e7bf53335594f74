import java.nio.charset.StandardCharsets;
import java.util.ArrayDeque;
import java.util.ArrayList;
import java.util.Arrays;
import java.util.Comparator;
import java.util.Deque;
import java.util.HashMap;
import java.util.List;
import java.util.Map;
import java.util.TreeMap;

/** The document told a second time, by plain search and without any thrift: what OracleTest holds the class against. */
final class Oracle {
    interface Expr {
        long of(Map<String, Long> own);
    }

    static final class Fault extends RuntimeException {
        private static final long serialVersionUID = 1;
        final int kind;
        final int place;

        Fault(int kind, int place) {
            this.kind = kind;
            this.place = place;
        }
    }

    static final class Figure {
        int x;
        int y;
        boolean up = true;
        int dir;
        int foe = -1;

        Figure copy() {
            Figure f = new Figure();
            f.x = x;
            f.y = y;
            f.up = up;
            f.dir = dir;
            f.foe = foe;
            return f;
        }
    }

    /** letter: night, from, to. snow: night, for. */
    static final class World {
        int wide;
        int high;
        int lines;
        int night;
        Map<Integer, Integer> blocks = new TreeMap<>();
        List<Figure> figures = new ArrayList<>();
        List<int[]> letters = new ArrayList<>();
        List<int[]> snows = new ArrayList<>();
        Expr law = own -> 0;

        World copy() {
            World w = new World();
            w.wide = wide;
            w.high = high;
            w.lines = lines;
            w.night = night;
            w.blocks.putAll(blocks);
            for (Figure f : figures) {
                w.figures.add(f.copy());
            }
            w.letters.addAll(letters);
            w.snows.addAll(snows);
            w.law = law;
            return w;
        }

        boolean inside(int x, int y) {
            return x >= 0 && y >= 0 && x < wide && y < high;
        }

        int at(int x, int y) {
            if (blocks.containsKey(y * wide + x)) {
                return blocks.get(y * wide + x);
            }
            for (int i = 0; i < figures.size(); i++) {
                Figure f = figures.get(i);
                if (f.up && f.x == x && f.y == y) {
                    return i;
                }
            }
            return -1;
        }

        int at(int k) {
            return at(k % wide, k / wide);
        }

        boolean hating(int s) {
            Figure f = figures.get(s);
            return f.up && f.foe >= 0 && figures.get(f.foe).up;
        }

        int towards(int s) {
            if (!hating(s)) {
                return -1;
            }
            Figure f = figures.get(s);
            Figure g = figures.get(f.foe);
            int dx = g.x - f.x;
            int dy = g.y - f.y;
            String go = "";
            boolean straightX = Math.abs(dx) > 2 * Math.abs(dy);
            boolean straightY = Math.abs(dy) > 2 * Math.abs(dx);
            if (!straightX) {
                go += dy < 0 ? "N" : "S";
            }
            if (!straightY) {
                go += dx < 0 ? "W" : "E";
            }
            return List.of("N", "NE", "E", "SE", "S", "SW", "W", "NW").indexOf(go);
        }

        int off(int s) {
            int t = towards(s);
            if (t < 0) {
                return 0;
            }
            int far = Math.abs(t - figures.get(s).dir);
            return far > 4 ? 8 - far : far;
        }

        /** The STONES looked along, then what ends it: a STATUE, -10, -11, or -1. */
        List<Integer> looked(int s) {
            List<Integer> stones = new ArrayList<>();
            if (!hating(s)) {
                stones.add(-1);
                return stones;
            }
            Figure f = figures.get(s);
            int dx = f.dir == 0 || f.dir == 4 ? 0 : f.dir < 4 ? 1 : -1;
            int dy = f.dir == 2 || f.dir == 6 ? 0 : f.dir > 2 && f.dir < 6 ? 1 : -1;
            int x = f.x;
            int y = f.y;
            while (true) {
                x += dx;
                y += dy;
                if (!inside(x, y)) {
                    stones.add(-1);
                    return stones;
                }
                if (at(x, y) != -1) {
                    stones.add(at(x, y));
                    return stones;
                }
                stones.add(y * wide + x);
            }
        }

        List<Integer> look(int s) {
            List<Integer> all = looked(s);
            return all.subList(0, all.size() - 1);
        }

        int sees(int s) {
            List<Integer> all = looked(s);
            return Math.max(-1, all.get(all.size() - 1));
        }

        boolean under(int k) {
            for (int s = 0; s < figures.size(); s++) {
                if (look(s).contains(k)) {
                    return true;
                }
            }
            return false;
        }

        boolean snowing() {
            return snows.stream().anyMatch(s -> night >= s[0] && night < s[0] + s[1]);
        }

        int wouldTurn(int s) {
            if (snowing() || off(s) == 0) {
                return 0;
            }
            Figure f = figures.get(s);
            Map<String, Long> own = new HashMap<>();
            own.put("night", (long) night);
            own.put("week", (long) night % 7);
            own.put("me", (long) s);
            own.put("dir", (long) f.dir);
            own.put("off", (long) off(s));
            own.put("x", (long) f.x);
            own.put("y", (long) f.y);
            own.put("foes", figures.stream().filter(g -> g.up && g.foe == s).count());
            if (law.of(own) != 0) {
                return 0;
            }
            return (f.dir + off(s)) % 8 == towards(s) ? 1 : -1;
        }

        /** Who turned. */
        List<Integer> pass() {
            int[] turn = new int[figures.size()];
            List<Integer> turned = new ArrayList<>();
            for (int s = 0; s < turn.length; s++) {
                turn[s] = wouldTurn(s);
            }
            for (int s = 0; s < turn.length; s++) {
                if (turn[s] != 0) {
                    turned.add(s);
                    figures.get(s).dir = (figures.get(s).dir + turn[s] + 8) % 8;
                }
            }
            night++;
            for (int[] l : letters) {
                if (l[0] == night) {
                    figures.get(l[1]).foe = l[2];
                }
            }
            return turned;
        }

        World in(int n) {
            World w = copy();
            for (int i = 0; i < n; i++) {
                w.pass();
            }
            return w;
        }

        boolean statue(int s) {
            return s >= 0 && s < figures.size();
        }

        boolean stone(int k) {
            return k >= 0 && k < wide * high;
        }

        /** 1 to 3: why a deed can't be; then it changes nothing. */
        int deed(String what, int a, int b) {
            if (!statue(a)) {
                return 1;
            }
            Figure f = figures.get(a);
            switch (what) {
                case "letter":
                    if (!statue(b) || a == b) {
                        return 1;
                    }
                    if (!f.up || !figures.get(b).up) {
                        return 2;
                    }
                    f.foe = b;
                    return 0;
                case "peace":
                    if (!f.up) {
                        return 2;
                    }
                    f.foe = -1;
                    return 0;
                case "down":
                    if (!f.up) {
                        return 2;
                    }
                    f.up = false;
                    return 0;
                default:
                    if (!stone(b)) {
                        return 1;
                    }
                    if (f.up) {
                        return 2;
                    }
                    if (at(b) != -1) {
                        return 3;
                    }
                    f.up = true;
                    f.x = b % wide;
                    f.y = b / wide;
                    return 0;
            }
        }

        int[] trayDeed(long v) {
            if (v == -1) {
                return new int[] {0, pass().size()};
            }
            if (v >= 0 && v <= 77) {
                return new int[] {deed("letter", (int) v / 10, (int) v % 10), 0};
            }
            if (v >= 100 && v < 200) {
                return new int[] {deed("peace", (int) v - 100, 0), 0};
            }
            if (v >= 200 && v < 300) {
                return new int[] {deed("down", (int) v - 200, 0), 0};
            }
            if (v >= 1000 && v < 1900) {
                return new int[] {deed("up", (int) v / 100 - 10, (int) v % 100), 0};
            }
            return new int[] {1, 0};
        }

        long looks() {
            long bits = 0;
            for (int k = 0; k < wide * high; k++) {
                if (under(k)) {
                    bits |= 1L << k;
                }
            }
            return bits;
        }
    }

    static final class Parser {
        static final List<String> ATOMS = List.of("night", "week", "me", "dir", "off", "x", "y", "foes");
        final byte[] text;
        final List<String> words = new ArrayList<>();
        final List<Integer> places = new ArrayList<>();
        int i;
        World w = new World();

        Parser(byte[] text) {
            this.text = text;
            String all = new String(text, StandardCharsets.ISO_8859_1);
            int p = 0;
            while (p < all.length()) {
                char c = all.charAt(p);
                int from = p;
                if (c == ' ' || c == 10) {
                    p++;
                    continue;
                }
                if (c >= 'a' && c <= 'z') {
                    while (p < all.length() && all.charAt(p) >= 'a' && all.charAt(p) <= 'z') {
                        p++;
                    }
                } else if (c >= '0' && c <= '9') {
                    while (p < all.length() && all.charAt(p) >= '0' && all.charAt(p) <= '9') {
                        p++;
                    }
                } else {
                    p++;
                }
                words.add(all.substring(from, p));
                places.add(from);
            }
            words.add("");
            places.add(text.length);
        }

        Fault fault(int kind) {
            String t = words.get(i);
            boolean token = t.isEmpty() || t.matches("[a-z]+|[0-9]{1,3}|[;:+*()=<>\\[\\]-]");
            return new Fault(token ? kind : 1, places.get(i));
        }

        boolean is(String t) {
            return words.get(i).equals(t);
        }

        void need(String t) {
            if (!is(t)) {
                throw fault(2);
            }
            i++;
        }

        boolean isNumber() {
            return words.get(i).matches("[0-9]{1,3}");
        }

        int peek() {
            if (!isNumber()) {
                throw fault(2);
            }
            return Integer.parseInt(words.get(i));
        }

        int number(int least, int most) {
            int n = peek();
            if (n < least || n > most) {
                throw fault(3);
            }
            i++;
            return n;
        }

        World read() {
            while (!is("")) {
                line();
                need(";");
                w.lines++;
            }
            return w;
        }

        int spot() {
            int x = number(0, w.wide - 1);
            int y = peek();
            if (y >= w.high || w.at(x, y) != -1) {
                throw fault(3);
            }
            i++;
            return y * w.wide + x;
        }

        void line() {
            String first = words.get(i);
            if (!List.of("stones", "statue", "wall", "fountain", "letter", "peace", "snow", "rest").contains(first)) {
                throw fault(2);
            }
            boolean needsStones = List.of("statue", "wall", "fountain").contains(first);
            if (needsStones && w.wide == 0 || first.equals("stones") && w.wide > 0) {
                throw fault(2);
            }
            boolean mail = first.equals("letter") || first.equals("peace");
            if (first.equals("statue") && w.figures.size() == 8 || mail && w.letters.size() == 10
                    || first.equals("snow") && w.snows.size() == 4) {
                throw fault(4);
            }
            i++;
            switch (first) {
                case "stones": {
                    int wide = number(2, 8);
                    w.high = number(2, 8);
                    w.wide = wide;
                    break;
                }
                case "statue": {
                    int k = spot();
                    Figure f = new Figure();
                    f.x = k % w.wide;
                    f.y = k / w.wide;
                    need("looks");
                    f.dir = number(0, 7);
                    if (is("at")) {
                        i++;
                        f.foe = number(0, w.figures.size() - 1);
                    }
                    w.figures.add(f);
                    break;
                }
                case "wall":
                case "fountain":
                    w.blocks.put(spot(), first.equals("wall") ? -10 : -11);
                    break;
                case "snow": {
                    int night = number(0, 999);
                    need("for");
                    w.snows.add(new int[] {night, number(1, 99)});
                    break;
                }
                case "rest":
                    need(":");
                    w.law = truth(0);
                    break;
                default:
                    mail(first.equals("letter"));
            }
        }

        void mail(boolean letter) {
            int night = number(0, 999);
            need("from");
            int from = number(0, w.figures.size() - 1);
            int to = -1;
            if (letter) {
                need("to");
                if (isNumber() && peek() == from) {
                    throw fault(3);
                }
                to = number(0, w.figures.size() - 1);
            }
            w.letters.add(new int[] {night, from, to});
            if (night == 0) {
                w.figures.get(from).foe = to;
            }
        }

        int deeper(int depth) {
            if (depth == 6) {
                throw fault(4);
            }
            i++;
            return depth + 1;
        }

        Expr truth(int depth) {
            Expr a = both(depth);
            while (is("or")) {
                i++;
                Expr l = a;
                Expr r = both(depth);
                a = own -> l.of(own) != 0 || r.of(own) != 0 ? 1 : 0;
            }
            return a;
        }

        Expr both(int depth) {
            Expr a = unit(depth);
            while (is("and")) {
                i++;
                Expr l = a;
                Expr r = unit(depth);
                a = own -> l.of(own) != 0 && r.of(own) != 0 ? 1 : 0;
            }
            return a;
        }

        Expr unit(int depth) {
            if (is("not")) {
                Expr a = unit(deeper(depth));
                return own -> a.of(own) != 0 ? 0 : 1;
            }
            if (is("[")) {
                Expr a = truth(deeper(depth));
                need("]");
                return a;
            }
            Expr l = sum(depth);
            String sign = words.get(i);
            if (!List.of("=", "<", ">").contains(sign)) {
                throw fault(2);
            }
            i++;
            Expr r = sum(depth);
            return own -> {
                int c = Long.compare(l.of(own), r.of(own));
                return (sign.equals("=") ? c == 0 : sign.equals("<") ? c < 0 : c > 0) ? 1 : 0;
            };
        }

        static long kept(long v) {
            return v > 1000000 ? 1000000 : v < -1000000 ? -1000000 : v;
        }

        Expr sum(int depth) {
            Expr a = term(depth);
            while (is("+") || is("-")) {
                int sign = is("+") ? 1 : -1;
                i++;
                Expr l = a;
                Expr r = term(depth);
                a = own -> kept(l.of(own) + sign * r.of(own));
            }
            return a;
        }

        Expr term(int depth) {
            Expr a = atom(depth);
            while (is("*")) {
                i++;
                Expr l = a;
                Expr r = atom(depth);
                a = own -> kept(l.of(own) * r.of(own));
            }
            return a;
        }

        Expr atom(int depth) {
            String t = words.get(i);
            if (isNumber()) {
                long n = number(0, 999);
                return own -> n;
            }
            if (ATOMS.contains(t)) {
                i++;
                return own -> own.get(t);
            }
            if (is("(")) {
                Expr a = sum(deeper(depth));
                need(")");
                return a;
            }
            throw fault(2);
        }
    }

    private World w = new World();
    private final Deque<World> past = new ArrayDeque<>();
    private final World[] images = new World[2];
    private final long[][] trays = new long[4][];
    private final int[] sorts = new int[4];
    private byte[] tape = new byte[0];
    private int fault;
    private int place = -1;

    private void keep(World before) {
        past.push(before);
        if (past.size() > 10) {
            past.removeLast();
        }
    }

    int feed(int a, int b, int c, int d, int e) {
        if (tape.length + 20 > 900) {
            return -5;
        }
        int n = tape.length;
        tape = Arrays.copyOf(tape, n + 20);
        for (int v : new int[] {a, b, c, d, e}) {
            for (int i = 3; i >= 0; i--) {
                tape[n++] = (byte) (v >> 8 * i);
            }
        }
        return n;
    }

    int square(int n) {
        if (n < 0 || n > tape.length) {
            return -3;
        }
        byte[] text = Arrays.copyOf(tape, n);
        tape = new byte[0];
        try {
            w = new Parser(text).read();
        } catch (Fault f) {
            fault = f.kind;
            place = f.place;
            return -30 - f.kind;
        }
        fault = 0;
        place = -1;
        past.clear();
        return w.lines;
    }

    int fault(int what) {
        return what == 0 ? fault : what == 1 ? place : -1;
    }

    int statue(int s, int what) {
        if (!w.statue(s) || what < 0 || what > 5) {
            return -8;
        }
        Figure f = w.figures.get(s);
        int[] all = {f.up ? f.y * w.wide + f.x : -1, f.dir, f.foe, w.off(s), w.sees(s), w.wouldTurn(s) != 0 ? 1 : 0};
        return all[what];
    }

    int stone(int k) {
        return w.stone(k) ? w.at(k) : -2;
    }

    private static long bits(List<Integer> all) {
        long bits = 0;
        for (int k : all) {
            bits |= 1L << k;
        }
        return bits;
    }

    long look(int s) {
        return w.statue(s) ? bits(w.look(s)) : -2;
    }

    long under() {
        return w.looks();
    }

    int watchers(int k) {
        return w.stone(k) ? watching(w, k) : -2;
    }

    private static int watching(World w, int k) {
        int bits = 0;
        for (int s = 0; s < w.figures.size(); s++) {
            bits |= w.look(s).contains(k) ? 1 << s : 0;
        }
        return bits;
    }

    int towards(int s) {
        return w.statue(s) ? w.towards(s) : -2;
    }

    int nights(int n) {
        if (n < 1 || n > 99) {
            return -3;
        }
        keep(w.copy());
        int turned = 0;
        for (int i = 0; i < n; i++) {
            turned += w.pass().size();
        }
        return turned;
    }

    private int deed(String what, int a, int b) {
        World after = w.copy();
        int why = after.deed(what, a, b);
        if (why != 0) {
            return -10 - why;
        }
        Figure f = w.figures.get(a);
        int had = what.equals("down") ? f.y * w.wide + f.x : f.foe;
        keep(w);
        w = after;
        return had;
    }

    int letter(int a, int b) {
        return deed("letter", a, b);
    }

    int peace(int s) {
        return deed("peace", s, 0);
    }

    int down(int s) {
        return deed("down", s, 0);
    }

    int up(int s, int k) {
        int refused = deed("up", s, k);
        return refused < -10 ? refused : Long.bitCount(w.looks());
    }

    int undo(int n) {
        if (n < 1 || n > 10 || n > past.size()) {
            return -3;
        }
        for (int i = 0; i < n; i++) {
            w = past.pop();
        }
        return past.size();
    }

    private boolean tray(int t) {
        return t >= 0 && t < 4;
    }

    int judge(int t, int what) {
        if (!tray(t) || what < 0 || what > 3) {
            return -2;
        }
        if (trays[t] == null) {
            return -6;
        }
        World then = w.copy();
        int turned = 0;
        int first = -1;
        int why = 0;
        for (int i = 0; i < trays[t].length && first < 0; i++) {
            int[] out = then.trayDeed(trays[t][i]);
            if (out[0] != 0) {
                first = i;
                why = out[0];
            }
            turned += out[1];
        }
        return new int[] {first, why, turned, Long.bitCount(then.looks())}[what];
    }

    int perform(int t) {
        if (!tray(t)) {
            return -2;
        }
        if (trays[t] == null) {
            return -6;
        }
        World ahead = w.copy();
        int done = 0;
        while (done < trays[t].length && w.trayDeed(trays[t][done])[0] == 0) {
            done++;
        }
        if (done > 0) {
            keep(ahead);
        }
        return done;
    }

    int month(int seed, int times) {
        if (times < 1 || times > 60) {
            return -3;
        }
        int many = w.figures.size();
        if (many == 0) {
            return -5;
        }
        World ahead = w.copy();
        int[] x = {seed};
        int done = 0;
        for (int i = 0; i < times; i++) {
            int kind = draw(x) % 4;
            int why;
            if (kind < 2) {
                w.pass();
                why = 0;
            } else if (kind == 2) {
                int a = draw(x) % many;
                int b = draw(x) % many;
                why = w.deed("letter", a, b);
            } else {
                why = w.deed("peace", draw(x) % many, 0);
            }
            done += why == 0 ? 1 : 0;
        }
        if (done > 0) {
            keep(ahead);
        }
        return done;
    }

    private static int draw(int[] x) {
        x[0] = (int) (1103515245L * x[0] + 12345L);
        return (int) ((x[0] & 0xffffffffL) >> 16);
    }

    int still() {
        World then = w.copy();
        boolean[] stir = new boolean[201];
        for (int i = 0; i <= 200; i++) {
            stir[i] = !then.pass().isEmpty();
            for (int[] l : w.letters) {
                stir[i] |= l[0] == then.night;
            }
        }
        for (int n = 0; n <= 200; n++) {
            boolean calm = true;
            for (int i = n; i <= 200; i++) {
                calm &= !stir[i];
            }
            if (calm) {
                return n;
            }
        }
        return -1;
    }

    int later(int s, int n, int what) {
        if (!w.statue(s) || n < 0 || n > 200 || what < 0 || what > 2) {
            return -8;
        }
        World then = w.in(n);
        Figure f = then.figures.get(s);
        return new int[] {f.dir, f.foe, then.sees(s)}[what];
    }

    int facing(int s) {
        if (!w.statue(s)) {
            return -2;
        }
        World then = w.copy();
        for (int n = 0; n <= 200; n++) {
            if (then.off(s) == 0) {
                return n;
            }
            then.pass();
        }
        return -1;
    }

    int pair() {
        for (int a = 0; a < w.figures.size(); a++) {
            for (int b = a + 1; b < w.figures.size(); b++) {
                if (w.sees(a) == b && w.sees(b) == a) {
                    return 10 * a + b;
                }
            }
        }
        return -1;
    }

    private int ring(int s) {
        List<Integer> trail = new ArrayList<>();
        int at = s;
        while (at >= 0 && w.figures.get(at).up && !trail.contains(at)) {
            trail.add(at);
            at = w.figures.get(at).foe;
        }
        return at == s && !trail.isEmpty() ? trail.size() : 0;
    }

    int rings() {
        int bits = 0;
        for (int s = 0; s < w.figures.size(); s++) {
            bits |= ring(s) > 0 ? 1 << s : 0;
        }
        return bits;
    }

    int ringOf(int s) {
        return w.statue(s) ? ring(s) : -2;
    }

    int calm() {
        int bits = 0;
        for (int s = 0; s < w.figures.size(); s++) {
            bits |= w.figures.get(s).up && !w.hating(s) ? 1 << s : 0;
        }
        return bits;
    }

    private World[] coming(int n) {
        World[] all = new World[n + 1];
        all[0] = w;
        for (int i = 1; i <= n; i++) {
            all[i] = all[i - 1].in(1);
        }
        return all;
    }

    /** How many WAYS from a STONE on some NIGHT end on another one on the last, each told once. */
    private long waysFrom(World[] nights, int at, int to, int night, int last, Map<Integer, Long> known) {
        if (night == last) {
            return at == to ? 1 : 0;
        }
        Long had = known.get(night * 64 + at);
        if (had != null) {
            return had;
        }
        long sum = 0;
        for (int k : besides(at)) {
            if (nights[night].at(k) == -1 && !nights[night].under(k)) {
                sum += waysFrom(nights, k, to, night + 1, last, known);
            }
        }
        known.put(night * 64 + at, sum);
        return sum;
    }

    private List<Integer> besides(int at) {
        List<Integer> all = new ArrayList<>();
        for (int k = 0; k < w.wide * w.high; k++) {
            if (Math.abs(k % w.wide - at % w.wide) + Math.abs(k / w.wide - at / w.wide) <= 1) {
                all.add(k);
            }
        }
        return all;
    }

    int way(int from, int to) {
        if (!w.stone(from) || !w.stone(to)) {
            return -2;
        }
        if (w.at(from) != -1 || w.at(to) != -1) {
            return -5;
        }
        World[] nights = coming(40);
        for (int n = 0; n <= 40; n++) {
            if (waysFrom(nights, from, to, 0, n, new HashMap<>()) != 0) {
                return n;
            }
        }
        return -1;
    }

    long reach(int from, int n) {
        if (!w.stone(from)) {
            return -2;
        }
        if (n < 0 || n > 40) {
            return -3;
        }
        if (w.at(from) != -1) {
            return -5;
        }
        World[] nights = coming(40);
        long bits = 0;
        for (int k = 0; k < w.wide * w.high; k++) {
            if (waysFrom(nights, from, k, 0, n, new HashMap<>()) != 0) {
                bits |= 1L << k;
            }
        }
        return bits;
    }

    long ways(int from, int to, int n) {
        if (!w.stone(from) || !w.stone(to)) {
            return -2;
        }
        if (n < 0 || n > 20) {
            return -3;
        }
        if (w.at(from) != -1 || w.at(to) != -1) {
            return -5;
        }
        return waysFrom(coming(40), from, to, 0, n, new HashMap<>());
    }

    int step(int from, int to, int k) {
        if (!w.stone(from) || !w.stone(to)) {
            return -2;
        }
        if (k < 0) {
            return -3;
        }
        int n = way(from, to);
        if (n < 0 || k > n) {
            return n == -5 ? -5 : -1;
        }
        World[] nights = coming(40);
        int at = from;
        for (int night = 0; night < k; night++) {
            for (int next : besides(at)) {
                boolean free = nights[night].at(next) == -1 && !nights[night].under(next);
                if (free && waysFrom(nights, next, to, night + 1, n, new HashMap<>()) != 0) {
                    at = next;
                    break;
                }
            }
        }
        return at;
    }

    int freeIn(int k) {
        if (!w.stone(k)) {
            return -2;
        }
        World then = w.copy();
        for (int n = 0; n <= 200; n++) {
            if (!then.under(k)) {
                return n;
            }
            then.pass();
        }
        return -1;
    }

    private int fewest(int k, int what, String deed) {
        if (!w.stone(k) || what < 0 || what > 1) {
            return -2;
        }
        List<Integer> sets = new ArrayList<>();
        for (int set = 0; set < 1 << w.figures.size(); set++) {
            sets.add(set);
        }
        sets.sort(Comparator.comparing((Integer set) -> Integer.bitCount(set)).thenComparing(set -> set));
        for (int set : sets) {
            World then = w.copy();
            boolean can = true;
            for (int s = 0; s < w.figures.size(); s++) {
                if ((set & 1 << s) != 0) {
                    can &= !(deed.equals("down") && w.at(k) == s) && then.deed(deed, s, 0) == 0;
                }
            }
            if (can && !then.under(k)) {
                return what == 0 ? Integer.bitCount(set) : set;
            }
        }
        return -1;
    }

    int takeDown(int k, int what) {
        return fewest(k, what, "down");
    }

    int reconcile(int k, int what) {
        return fewest(k, what, "peace");
    }

    long blocks(int k) {
        if (!w.stone(k)) {
            return -2;
        }
        long bits = 0;
        for (int b = 0; b < w.wide * w.high; b++) {
            World then = w.copy();
            then.blocks.put(b, -10);
            if (w.under(k) && b != k && w.at(b) == -1 && !then.under(k)) {
                bits |= 1L << b;
            }
        }
        return bits;
    }

    /** Each LETTER found now and how all is n NIGHTS later, in order. */
    private Map<Integer, World> answers(int n) {
        Map<Integer, World> all = new TreeMap<>();
        for (int a = 0; a < w.figures.size(); a++) {
            for (int b = 0; b < w.figures.size(); b++) {
                World then = w.copy();
                if (then.deed("letter", a, b) == 0 && w.figures.get(a).foe != b) {
                    all.put(10 * a + b, then.in(n));
                }
            }
        }
        return all;
    }

    int frees(int k, int n, int what) {
        if (!w.stone(k) || what < 0 || what > 1) {
            return -2;
        }
        if (n < 0 || n > 60) {
            return -3;
        }
        List<Integer> good = new ArrayList<>();
        answers(n).forEach((letter, then) -> {
            if (!then.under(k)) {
                good.add(letter);
            }
        });
        return what == 0 ? good.size() : good.isEmpty() ? -1 : good.get(0);
    }

    private List<Integer> fitting(long[] dirs, int n) {
        Map<Integer, World> all = answers(n);
        all.put(-1, w.in(n));
        List<Integer> good = new ArrayList<>();
        all.forEach((letter, then) -> {
            boolean so = true;
            for (int s = 0; s < dirs.length; s++) {
                so &= dirs[s] == -1 || dirs[s] == then.figures.get(s).dir;
            }
            if (so) {
                good.add(letter);
            }
        });
        return good;
    }

    private int refused(int t, int n) {
        if (trays[t] == null) {
            return -6;
        }
        if (trays[t].length != w.figures.size()) {
            return -4;
        }
        return Arrays.stream(trays[t]).anyMatch(v -> v < -1 || v > 7) || n < 0 || n > 60 ? -3 : 0;
    }

    int seen(int t, int n) {
        if (!tray(t)) {
            return -2;
        }
        return refused(t, n) != 0 ? refused(t, n) : fitting(trays[t], n).size();
    }

    int writer(int t, int n, int what) {
        if (!tray(t) || what < 0 || what > 1) {
            return -2;
        }
        if (refused(t, n) != 0) {
            return refused(t, n);
        }
        int[] told = fitting(trays[t], n).stream()
                .mapToInt(letter -> letter == -1 ? -1 : what == 0 ? letter / 10 : letter % 10).distinct().toArray();
        return told.length == 1 ? told[0] : -9;
    }

    int turners(int n) {
        if (n < 0 || n > 60) {
            return -3;
        }
        World then = w.copy();
        long bits = 0;
        for (int i = 0; i < n; i++) {
            bits |= bits(then.pass());
        }
        return (int) bits;
    }

    int numbers(int t, int sort, int n) {
        if (!tray(t) || sort < 0 || sort > 3) {
            return -2;
        }
        if (n < 0 || n > 40) {
            return -3;
        }
        trays[t] = new long[n];
        sorts[t] = sort;
        return 0;
    }

    long write(int t, int i, long v) {
        if (!tray(t)) {
            return -2;
        }
        if (trays[t] == null) {
            return -6;
        }
        if (i < 0 || i >= trays[t].length) {
            return -7;
        }
        int lost = 64 - (8 << sorts[t]);
        trays[t][i] = v << lost >> lost;
        return trays[t][i];
    }

    int copy(int t) {
        if (!tray(t)) {
            return -2;
        }
        if (trays[t] == null) {
            return -6;
        }
        int n = 0;
        while (n < trays[t].length && n < w.figures.size()) {
            trays[t][n] = w.figures.get(n).dir;
            n++;
        }
        return n;
    }

    int image(int i) {
        if (i < 0 || i > 1) {
            return -2;
        }
        images[i] = w.copy();
        return 0;
    }

    int restore(int i) {
        if (i < 0 || i > 1) {
            return -2;
        }
        if (images[i] == null) {
            return -5;
        }
        w = images[i].copy();
        past.clear();
        return 0;
    }

    int count(int what) {
        switch (what) {
            case 0:
                return w.wide;
            case 1:
                return w.high;
            case 2:
                return w.figures.size();
            case 3:
                return (int) w.figures.stream().filter(f -> f.up).count();
            case 4:
                return w.night;
            case 5:
                return w.snowing() ? 1 : 0;
            case 6:
                return w.letters.size();
            case 7:
                return (int) w.letters.stream().filter(l -> l[0] > w.night).count();
            case 8:
                return past.size();
            case 9:
                return tape.length;
            case 10:
                return w.lines;
            case 11:
                return w.blocks.size();
            default:
                return -1;
        }
    }
}
