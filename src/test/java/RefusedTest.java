import java.util.ArrayList;
import java.util.List;
import java.util.function.ToLongFunction;

/**
 * Refused calls answer by the document's code, of several that which the call tells first, and change nothing; nor do calls
 * that only ask. Each is made on one of two like objects; then all that can be asked of both is alike.
 */
public final class RefusedTest {
    private static final Check CHECK = new Check();
    private static final int MOST = Integer.MAX_VALUE;
    private static final int LEAST = Integer.MIN_VALUE;
    private static final String TEXT = "stones 4 4;statue 0 0 looks 2;statue 3 0 looks 5 at 0;statue 0 3 looks 0 at 1;wall 1 1;"
            + "fountain 2 2;letter 0 from 0 to 1;letter 5 from 2 to 0;peace 6 from 1;snow 3 for 2;rest : me = 2 and night < 2;";

    /**
     * NIGHT 1, three calls to undo, STATUE 1 DOWN, IMAGE 0 made, IMAGE 1 not. TRAY 0 has DEEDS of which the last can't be, 1
     * has what may be seen, 2 has none, 3 is MISSING.
     */
    private static TurnedStatues standing() {
        TurnedStatues x = Check.told(TEXT);
        x.image(0);
        x.nights(1);
        x.letter(2, 0);
        x.down(1);
        Check.tray(x, 0, 1, -1, 20, 100, 77);
        Check.tray(x, 1, 2, -1, -1, -1);
        Check.tray(x, 2, 3);
        return x;
    }

    /** The latest text was at fault, and 40 bytes wait on THE TAPE. */
    private static TurnedStatues prepared() {
        TurnedStatues x = standing();
        Check.tell(x, "stones 2 2;wall 9 0;");
        Check.feed(x, "stones 2 2;wall 0 0;wall 1 1;");
        return x;
    }

    /** All that can be asked, then what UNDOING, IMAGES, TRAYS and THE TAPE have. */
    private static List<Long> probe(TurnedStatues x) {
        List<Long> all = new ArrayList<>();
        ask(x, all);
        for (int tray = 0; tray < 4; tray++) {
            for (int what = 0; what < 4; what++) {
                all.add((long) x.judge(tray, what));
            }
            all.add((long) x.seen(tray, 3));
        }
        for (int i = 0; i < 4; i++) {
            all.add((long) x.undo(1));
            ask(x, all);
        }
        for (int tray = 0; tray < 4; tray++) {
            for (int i : new int[] {0, 3, 4}) {
                all.add(x.write(tray, i, 0x7001234567890123L));
            }
        }
        all.add((long) x.restore(1));
        all.add((long) x.restore(0));
        ask(x, all);
        int taped = x.count(9);
        all.add((long) x.square(taped));
        ask(x, all);
        return all;
    }

    private static void ask(TurnedStatues x, List<Long> all) {
        for (int what = 0; what < 12; what++) {
            all.add((long) x.count(what));
        }
        for (int s = 0; s < 3; s++) {
            for (int what = 0; what < 4; what++) {
                all.add((long) x.statue(s, what));
            }
        }
        for (int k : new int[] {0, 3, 5, 10, 12}) {
            all.add((long) x.stone(k));
        }
        all.add((long) x.still());
        all.add(x.under());
    }

    private static void leaves(String call, TurnedStatues asked, TurnedStatues spared) {
        CHECK.due(call + " leaves the FAULT", asked.fault(0), spared.fault(0));
        CHECK.due(call + " leaves its place", asked.fault(1), spared.fault(1));
        leavesAllElse(call, asked, spared);
    }

    private static void leavesAllElse(String call, TurnedStatues asked, TurnedStatues spared) {
        List<Long> got = probe(asked);
        List<Long> want = probe(spared);
        for (int i = 0; i < want.size(); i++) {
            CHECK.due(call + " leaves all as it was, " + i, got.get(i), want.get(i));
        }
    }

    private static void refused(long code, String call, ToLongFunction<TurnedStatues> made) {
        TurnedStatues x = prepared();
        CHECK.due(call, made.applyAsLong(x), code);
        CHECK.due(call + " again", made.applyAsLong(x), code);
        leaves(call, x, prepared());
    }

    /** That the probe would tell: each call that does change something is seen by it. */
    private static void seenByProbe(String call, ToLongFunction<TurnedStatues> made) {
        TurnedStatues x = prepared();
        made.applyAsLong(x);
        CHECK.due(call + " is seen", probe(x).equals(probe(prepared())) ? 0 : 1, 1);
    }

    private static void changes() {
        seenByProbe("feed", x -> x.feed(0x20202020, 0x20202020, 0x20202020, 0x20202020, 0x20202020));
        seenByProbe("square", x -> x.square(0));
        seenByProbe("nights", x -> x.nights(1));
        seenByProbe("letter", x -> x.letter(0, 2));
        seenByProbe("peace", x -> x.peace(0));
        seenByProbe("down", x -> x.down(0));
        seenByProbe("up", x -> x.up(1, 3));
        seenByProbe("undo", x -> x.undo(1));
        seenByProbe("perform", x -> x.perform(0));
        seenByProbe("month", x -> x.month(0, 1));
        seenByProbe("numbers", x -> x.numbers(3, 0, 0));
        seenByProbe("numbers of 0", x -> x.numbers(0, 1, 4));
        seenByProbe("numbers of another sort", x -> x.numbers(2, 2, 4));
        seenByProbe("write", x -> x.write(0, 3, 100));
        seenByProbe("copy", x -> x.copy(1));
        seenByProbe("image(0)", x -> x.image(0));
        seenByProbe("image(1)", x -> x.image(1));
        seenByProbe("restore", x -> x.restore(0));
    }

    private static void texts() {
        refused(-3, "square(-1)", x -> x.square(-1));
        refused(-3, "square(41)", x -> x.square(41));
        refused(-3, "square(901)", x -> x.square(901));
        refused(-3, "square(most)", x -> x.square(MOST));
        refused(-3, "square(least)", x -> x.square(LEAST));
        TurnedStatues full = prepared();
        TurnedStatues spared = prepared();
        for (int i = 0; i < 43; i++) {
            full.feed(0x3b3b3b3b, -1, 0, 1, 0x20202020);
            spared.feed(0x3b3b3b3b, -1, 0, 1, 0x20202020);
        }
        CHECK.due("feed over 900", full.feed(1, 2, 3, 4, 5), -5);
        leaves("feed over 900", full, spared);
        // of a text at fault THE TAPE is emptied and the FAULT is known: all else stays
        String[] faulty = {"$", "stones 3 3;wall", "stones 4 4;statue 3 3 looks 3;wall 3 3;", "snow 0 for 1;".repeat(5)};
        for (int kind = 1; kind <= 4; kind++) {
            TurnedStatues x = standing();
            CHECK.due(faulty[kind - 1], Check.tell(x, faulty[kind - 1]), -30 - kind);
            leavesAllElse(faulty[kind - 1], x, standing());
        }
    }

    private static void ofTheSquare() {
        for (int s : new int[] {3, 8, -1, MOST, LEAST}) {
            refused(-8, "statue(" + s + ", 0)", x -> x.statue(s, 0));
            refused(-2, "look(" + s + ")", x -> x.look(s));
            refused(-2, "towards(" + s + ")", x -> x.towards(s));
            refused(-8, "later(" + s + ", 0, 0)", x -> x.later(s, 0, 0));
            refused(-2, "facing(" + s + ")", x -> x.facing(s));
            refused(-2, "ringOf(" + s + ")", x -> x.ringOf(s));
        }
        for (int what : new int[] {6, -1, MOST, LEAST}) {
            refused(-8, "statue(0, " + what + ")", x -> x.statue(0, what));
        }
        for (int what : new int[] {2, -1, MOST, LEAST}) {
            refused(-1, "fault(" + what + ")", x -> x.fault(what));
        }
        for (int what : new int[] {12, -1, MOST, LEAST}) {
            refused(-1, "count(" + what + ")", x -> x.count(what));
        }
        for (int what : new int[] {3, -1, MOST, LEAST}) {
            refused(-8, "later(0, 0, " + what + ")", x -> x.later(0, 0, what));
        }
        for (int n : new int[] {201, -1, MOST, LEAST}) {
            refused(-8, "later(0, " + n + ", 0)", x -> x.later(0, n, 0));
        }
        for (int k : new int[] {16, 64, -1, MOST, LEAST}) {
            refused(-2, "stone(" + k + ")", x -> x.stone(k));
            refused(-2, "watchers(" + k + ")", x -> x.watchers(k));
            refused(-2, "freeIn(" + k + ")", x -> x.freeIn(k));
            refused(-2, "takeDown(" + k + ", 0)", x -> x.takeDown(k, 0));
            refused(-2, "reconcile(" + k + ", 1)", x -> x.reconcile(k, 1));
            refused(-2, "blocks(" + k + ")", x -> x.blocks(k));
            refused(-2, "frees(" + k + ", 61, 0)", x -> x.frees(k, 61, 0));
            refused(-2, "way(" + k + ", 0)", x -> x.way(k, 0));
            refused(-2, "way(0, " + k + ")", x -> x.way(0, k));
            refused(-2, "reach(" + k + ", 41)", x -> x.reach(k, 41));
            refused(-2, "ways(" + k + ", 0, 21)", x -> x.ways(k, 0, 21));
            refused(-2, "ways(0, " + k + ", 21)", x -> x.ways(0, k, 21));
            refused(-2, "step(" + k + ", 0, -1)", x -> x.step(k, 0, -1));
            refused(-2, "step(0, " + k + ", -1)", x -> x.step(0, k, -1));
        }
        for (int what : new int[] {2, -1, MOST, LEAST}) {
            refused(-2, "takeDown(1, " + what + ")", x -> x.takeDown(1, what));
            refused(-2, "reconcile(1, " + what + ")", x -> x.reconcile(1, what));
            refused(-2, "frees(1, 0, " + what + ")", x -> x.frees(1, 0, what));
            refused(-2, "frees(1, 61, " + what + ")", x -> x.frees(1, 61, what));
        }
        for (int n : new int[] {61, -1, MOST, LEAST}) {
            refused(-3, "frees(1, " + n + ", 0)", x -> x.frees(1, n, 0));
            refused(-3, "turners(" + n + ")", x -> x.turners(n));
        }
    }

    private static void ways() {
        // 0, 12: STATUES; 5: a wall; 10: a fountain; 3 was left by STATUE 1
        for (int k : new int[] {0, 5, 10, 12}) {
            refused(-5, "way(" + k + ", 1)", x -> x.way(k, 1));
            refused(-5, "way(1, " + k + ")", x -> x.way(1, k));
            refused(-5, "way(" + k + ", " + k + ")", x -> x.way(k, k));
            refused(-5, "reach(" + k + ", 40)", x -> x.reach(k, 40));
            refused(-3, "reach(" + k + ", 41)", x -> x.reach(k, 41));
            refused(-3, "reach(" + k + ", -1)", x -> x.reach(k, -1));
            refused(-5, "ways(" + k + ", 1, 20)", x -> x.ways(k, 1, 20));
            refused(-5, "ways(1, " + k + ", 0)", x -> x.ways(1, k, 0));
            refused(-3, "ways(" + k + ", 1, 21)", x -> x.ways(k, 1, 21));
            refused(-3, "ways(1, " + k + ", -1)", x -> x.ways(1, k, -1));
            refused(-5, "step(" + k + ", 1, 99)", x -> x.step(k, 1, 99));
            refused(-5, "step(1, " + k + ", 0)", x -> x.step(1, k, 0));
            refused(-3, "step(" + k + ", 1, -1)", x -> x.step(k, 1, -1));
            refused(-2, "way(" + k + ", 16)", x -> x.way(k, 16));
            refused(-2, "ways(" + k + ", 16, 0)", x -> x.ways(k, 16, 0));
            refused(-2, "step(" + k + ", 16, 0)", x -> x.step(k, 16, 0));
        }
        refused(0, "way(3, 3)", x -> x.way(3, 3));
        refused(-1, "step(3, 3, 1)", x -> x.step(3, 3, 1));
    }

    private static void deeds() {
        for (int n : new int[] {0, 100, -1, MOST, LEAST}) {
            refused(-3, "nights(" + n + ")", x -> x.nights(n));
        }
        for (int n : new int[] {0, 4, 10, 11, -1, MOST, LEAST}) {
            refused(-3, "undo(" + n + ")", x -> x.undo(n));
        }
        for (int n : new int[] {0, 61, -1, MOST, LEAST}) {
            refused(-3, "month(1, " + n + ")", x -> x.month(1, n));
        }
        for (int s : new int[] {3, 8, -1, MOST, LEAST}) {
            refused(-11, "letter(" + s + ", 0)", x -> x.letter(s, 0));
            refused(-11, "letter(0, " + s + ")", x -> x.letter(0, s));
            refused(-11, "letter(" + s + ", " + s + ")", x -> x.letter(s, s));
            refused(-11, "letter(1, " + s + ")", x -> x.letter(1, s));
            refused(-11, "letter(" + s + ", 1)", x -> x.letter(s, 1));
            refused(-11, "peace(" + s + ")", x -> x.peace(s));
            refused(-11, "down(" + s + ")", x -> x.down(s));
            refused(-11, "up(" + s + ", 1)", x -> x.up(s, 1));
            refused(-11, "up(" + s + ", 0)", x -> x.up(s, 0));
        }
        refused(-11, "letter(0, 0)", x -> x.letter(0, 0));
        refused(-11, "letter(1, 1), DOWN", x -> x.letter(1, 1));
        refused(-12, "letter(1, 0)", x -> x.letter(1, 0));
        refused(-12, "letter(0, 1)", x -> x.letter(0, 1));
        refused(-12, "peace(1)", x -> x.peace(1));
        refused(-12, "down(1)", x -> x.down(1));
        for (int k : new int[] {16, 64, -1, MOST, LEAST}) {
            refused(-11, "up(1, " + k + ")", x -> x.up(1, k));
            refused(-11, "up(0, " + k + ")", x -> x.up(0, k));
        }
        refused(-12, "up(0, 1)", x -> x.up(0, 1));
        refused(-12, "up(0, 0)", x -> x.up(0, 0));
        refused(-12, "up(0, 5)", x -> x.up(0, 5));
        refused(-13, "up(1, 0)", x -> x.up(1, 0));
        refused(-13, "up(1, 5)", x -> x.up(1, 5));
        refused(-13, "up(1, 10)", x -> x.up(1, 10));
        refused(-13, "up(1, 12)", x -> x.up(1, 12));
        // of what did no one thing nothing can be UNDONE: SEED 1 draws a letter from 2 to 0, then PEACE of 1, who is DOWN
        refused(0, "perform(2)", x -> x.perform(2));
        refused(0, "month by which one writes to itself", x -> x.month(ownLetter(), 1));
    }

    /** A SEED whose first DRAWS are a letter of a STATUE to itself: 3 of them. */
    private static int ownLetter() {
        for (int seed = 0; seed < 1000; seed++) {
            long x = next(seed);
            long from = next(x);
            long to = next(from);
            if ((x >> 16) % 4 == 2 && (from >> 16) % 3 == (to >> 16) % 3) {
                return seed;
            }
        }
        throw new IllegalStateException("no such SEED");
    }

    private static long next(long x) {
        return (x * 1103515245L + 12345L) & 0xffffffffL;
    }

    private static void trays() {
        for (int tray : new int[] {4, -1, MOST, LEAST}) {
            refused(-2, "judge(" + tray + ", 0)", x -> x.judge(tray, 0));
            refused(-2, "perform(" + tray + ")", x -> x.perform(tray));
            refused(-2, "seen(" + tray + ", 61)", x -> x.seen(tray, 61));
            refused(-2, "writer(" + tray + ", 61, 0)", x -> x.writer(tray, 61, 0));
            refused(-2, "numbers(" + tray + ", 0, 1)", x -> x.numbers(tray, 0, 1));
            refused(-2, "numbers(" + tray + ", 0, 41)", x -> x.numbers(tray, 0, 41));
            refused(-2, "write(" + tray + ", 0, 0)", x -> x.write(tray, 0, 0));
            refused(-2, "write(" + tray + ", -1, 0)", x -> x.write(tray, -1, 0));
            refused(-2, "copy(" + tray + ")", x -> x.copy(tray));
            refused(-2, "numbers(0, " + tray + ", 1)", x -> x.numbers(0, tray, 1));
            refused(-2, "numbers(3, " + tray + ", -1)", x -> x.numbers(3, tray, -1));
            refused(-2, "judge(0, " + tray + ")", x -> x.judge(0, tray));
            refused(-2, "judge(3, " + tray + ")", x -> x.judge(3, tray));
        }
        for (int what : new int[] {2, -1, MOST, LEAST}) {
            refused(-2, "writer(1, 0, " + what + ")", x -> x.writer(1, 0, what));
            refused(-2, "writer(3, 61, " + what + ")", x -> x.writer(3, 61, what));
            refused(-2, "writer(0, 61, " + what + ")", x -> x.writer(0, 61, what));
            refused(-2, "image(" + what + ")", x -> x.image(what));
            refused(-2, "restore(" + what + ")", x -> x.restore(what));
        }
        for (int n : new int[] {41, -1, MOST, LEAST}) {
            refused(-3, "numbers(0, 1, " + n + ")", x -> x.numbers(0, 1, n));
            refused(-3, "numbers(3, 0, " + n + ")", x -> x.numbers(3, 0, n));
        }
        refused(-6, "judge(3, 0)", x -> x.judge(3, 0));
        refused(-6, "perform(3)", x -> x.perform(3));
        refused(-6, "seen(3, 0)", x -> x.seen(3, 0));
        refused(-6, "seen(3, 61)", x -> x.seen(3, 61));
        refused(-6, "writer(3, 61, 1)", x -> x.writer(3, 61, 1));
        refused(-6, "write(3, 0, 0)", x -> x.write(3, 0, 0));
        refused(-6, "write(3, -1, 0)", x -> x.write(3, -1, 0));
        refused(-6, "copy(3)", x -> x.copy(3));
        // four, none: not as many as STATUES; 77 is no DIRECTION either
        refused(-4, "seen(0, 61)", x -> x.seen(0, 61));
        refused(-4, "seen(2, 0)", x -> x.seen(2, 0));
        refused(-4, "writer(0, -1, 0)", x -> x.writer(0, -1, 0));
        for (int n : new int[] {61, -1, MOST, LEAST}) {
            refused(-3, "seen(1, " + n + ")", x -> x.seen(1, n));
            refused(-3, "writer(1, " + n + ", 0)", x -> x.writer(1, n, 0));
        }
        for (int i : new int[] {4, 40, -1, MOST, LEAST}) {
            refused(-7, "write(0, " + i + ", 5)", x -> x.write(0, i, 5));
            refused(-7, "write(2, " + i + ", 5)", x -> x.write(2, i, 5));
        }
        refused(-7, "write(2, 0, 5)", x -> x.write(2, 0, 5));
        refused(-5, "restore(1)", x -> x.restore(1));
    }

    /** Calls that only ask, with arguments at their least and their most. */
    private static void asking() {
        asks("under", x -> x.under());
        asks("still", x -> x.still());
        asks("pair", x -> x.pair());
        asks("rings", x -> x.rings());
        asks("calm", x -> x.calm());
        for (int s : new int[] {0, 1, 2}) {
            asks("statue", x -> x.statue(s, 5));
            asks("look", x -> x.look(s));
            asks("towards", x -> x.towards(s));
            asks("later", x -> x.later(s, 200, 2));
            asks("facing", x -> x.facing(s));
            asks("ringOf", x -> x.ringOf(s));
        }
        for (int k : new int[] {1, 3, 4, 8, 15}) {
            asks("stone", x -> x.stone(k));
            asks("watchers", x -> x.watchers(k));
            asks("way", x -> x.way(k, 4));
            asks("reach", x -> x.reach(k, 40));
            asks("ways", x -> x.ways(k, 4, 20));
            asks("step", x -> x.step(k, 4, 2));
            asks("freeIn", x -> x.freeIn(k));
            asks("takeDown", x -> x.takeDown(k, 1));
            asks("reconcile", x -> x.reconcile(k, 1));
            asks("blocks", x -> x.blocks(k));
            asks("frees", x -> x.frees(k, 60, 1));
        }
        for (int what = 0; what < 4; what++) {
            int which = what;
            asks("judge", x -> x.judge(0, which));
        }
        asks("seen", x -> x.seen(1, 60));
        asks("writer", x -> x.writer(1, 60, 0));
        asks("turners", x -> x.turners(60));
        asks("fault", x -> x.fault(0));
        asks("count", x -> x.count(8));
    }

    /** What is judged, foreseen, or UNDONE, is not so. */
    private static void askedMuch(TurnedStatues x) {
        x.up(1, 8);
        x.perform(0);
        x.undo(2);
        x.later(2, 200, 2);
        x.frees(6, 60, 1);
        x.seen(1, 60);
        x.ways(1, 15, 20);
        x.step(15, 1, 2);
        x.takeDown(1, 1);
        x.freeIn(1);
        x.still();
        x.judge(0, 0);
        Check.tray(x, 0, 1, -1, 20, 100, 200, 1001, 1108, 202, 1204, -1, -1, 12, 21);
        CHECK.due("much is judged", x.judge(0, 0), -1);
        Check.tray(x, 0, 1, -1, 20, 100, 77);
    }

    private static void asks(String call, ToLongFunction<TurnedStatues> made) {
        TurnedStatues x = prepared();
        long first = made.applyAsLong(prepared());
        askedMuch(x);
        CHECK.due(call + " behind others", made.applyAsLong(x), first);
        CHECK.due(call + " again", made.applyAsLong(x), first);
        leaves(call, x, prepared());
    }

    public static void main(String[] args) {
        changes();
        texts();
        ofTheSquare();
        ways();
        deeds();
        trays();
        asking();
        CHECK.end();
    }
}
