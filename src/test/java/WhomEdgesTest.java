/** Promises 31 to 38 and the terms they use, at their edges: who has to go for a STONE to be FREE, who wrote, who turns. */
public final class WhomEdgesTest {
    private static final Check CHECK = new Check();
    private static final int[] WILD = {-1, 64, Integer.MAX_VALUE, Integer.MIN_VALUE};
    /**
     * 0 to 6 in the first row look out of the square, and rest; 7 far below 2 hates 0 and looks north, over 26. From there
     * north is TOWARDS 0 to 5; TOWARDS 6 is slanting (1).
     */
    private static final String SEVENTH = "stones 8 8;statue 0 0 looks 0;statue 1 0 looks 0;statue 2 0 looks 0;statue 3 0 looks 0;"
            + "statue 4 0 looks 0;statue 5 0 looks 0;statue 6 0 looks 0;statue 2 7 looks 0 at 0;rest : me < 7 or night < ";

    private static void due(String call, long got, long want) {
        CHECK.due(call, got, want);
    }

    /** Promise 31. */
    private static void freeIn() {
        // 0 looks over 1, 2, 3 and turns to 5 on the NIGHT told; 1 looks out of the square, then up at 0
        String strip = "stones 4 2;statue 0 0 looks 2;statue 0 1 looks 4 at 0;letter 0 from 0 to 1;rest : night < ";
        int[][] turnOn = {{0, 1}, {1, 2}, {198, 199}, {199, 200}, {200, -1}, {201, -1}, {999, -1}};
        for (int[] t : turnOn) {
            TurnedStatues x = Check.told(strip + t[0] + ";");
            due("freeIn(3), turned on " + t[0], x.freeIn(3), t[1]);
            due("freeIn(5), FREE as yet", x.freeIn(5), 0);
            due("freeIn(7)", x.freeIn(7), 0);
            due("freeIn(0), with a STATUE", x.freeIn(0), 0);
            due("freeIn(8)", x.freeIn(8), -2);
            for (int k : WILD) {
                due("freeIn(" + k + ")", x.freeIn(k), -2);
            }
            due("nothing went by", x.count(4), 0);
        }
        int[][] peaceOn = {{1, 1}, {199, 199}, {200, 200}, {201, -1}};
        for (int[] p : peaceOn) {
            due("freeIn by a peace on " + p[0], Check.told(strip + "999;peace " + p[0] + " from 0;").freeIn(2), p[1]);
        }
        TurnedStatues x = Check.told("stones 8 8;statue 7 0 looks 4;statue 0 7 looks 2 at 0;letter 0 from 0 to 1;");
        due("freeIn(63)", x.freeIn(63), 1);
        due("freeIn(62)", x.freeIn(62), 1);
        due("freeIn(49)", x.freeIn(49), 0);
        x = Check.told(strip + "0;");
        x.nights(1);
        due("5 is UNDER a LOOK then", x.freeIn(5), 1);
    }

    /** Promise 32, 33, 34, where eight look at STONE 27, each the FOE of the next one, and 0 hates 1. */
    private static void eightAround() {
        TurnedStatues x = Check.told(Check.AROUND);
        // of each two in line one has to go; the least set is 0, 2, 4, 6
        due("takeDown: how many", x.takeDown(27, 0), 4);
        due("takeDown: which", x.takeDown(27, 1), 85);
        due("reconcile: how many", x.reconcile(27, 0), 8);
        due("reconcile: which", x.reconcile(27, 1), 255);
        due("no room to block", x.blocks(27), 0);
        due("freeIn: none turns to it", x.freeIn(27), 1);
        // 0 is DOWN, so 1, who hates it, doesn't look: 1 to 7 in line
        x.down(0);
        due("takeDown without 0: how many", x.takeDown(27, 0), 3);
        due("takeDown without 0: which", x.takeDown(27, 1), 4 + 16 + 64);
        due("reconcile without 0", x.reconcile(27, 1), 255 - 1 - 2);
        due("reconcile without 0: how many", x.reconcile(27, 0), 6);
        x = Check.told(Check.AROUND.replace("looks 3 at 6", "looks 3 at 0"));
        // now 7 hates 0: 7 0 1 2 3 4 5 6 in line
        due("takeDown: how many of another line", x.takeDown(27, 0), 4);
        due("takeDown: which of another line", x.takeDown(27, 1), 1 + 2 + 8 + 32);
    }

    /** Promise 32: those who stand, as few as can be; who is taken away ends no LOOK any more. */
    private static void takingDown() {
        // 0 looks along the first row at 2; behind 2 is STONE 4; 1 looks down the column of STONE 4
        String row = "stones 6 6;statue 0 0 looks 2;statue 4 5 looks 0 at 0;statue 2 0 looks 4;letter 0 from 0 to 1;";
        TurnedStatues x = Check.told(row);
        due("watchers(4)", x.watchers(4), 2);
        due("without its FOE 1 sees nothing", x.takeDown(4, 1), 1);
        due("how many", x.takeDown(4, 0), 1);
        due("watchers(1)", x.watchers(1), 1);
        due("takeDown(1)", x.takeDown(1, 1), 1);
        due("takeDown(3): FREE", x.takeDown(3, 0), 0);
        due("takeDown(3): none", x.takeDown(3, 1), 0);
        x.down(2);
        due("watchers(4) without 2", x.watchers(4), 3);
        // 2 hates 3, and looks at 4 from the left; 1 stands between 0 and 4, and its FOE is 3 as well
        x = Check.told("stones 6 2;statue 0 0 looks 2;statue 3 0 looks 2;statue 5 1 looks 0 at 0;letter 0 from 0 to 2;letter 0 from 1 to 2;");
        due("watchers of 4 0", x.watchers(4), 2);
        due("1 alone would leave 0 in its place", x.takeDown(4, 1), 4);
        due("one is enough", x.takeDown(4, 0), 1);
        // their FOES are two: 1 hates 3; with 1 away 0 looks on, with 3 away 1 is calm and still ends the LOOK of 0
        x = Check.told("stones 6 2;statue 0 0 looks 2;statue 3 0 looks 2;statue 5 1 looks 4;statue 4 1 looks 4;letter 0 from 0 to 2;"
                + "letter 0 from 1 to 3;");
        due("the FOE, not who looks", x.takeDown(4, 1), 8);
        x = Check.told("stones 6 2;statue 0 0 looks 2;statue 3 0 looks 2 at 0;statue 5 1 looks 4;letter 0 from 0 to 2;");
        due("its own FOE is the one behind", x.takeDown(4, 1), 1);
        x = Check.told("stones 2 2;statue 0 0 looks 2;statue 1 1 looks 6 at 0;letter 0 from 0 to 1;");
        due("by one of two", x.takeDown(1, 1), 1);
        due("by one of two: 2", x.takeDown(2, 1), 1);
        due("a STATUE on it stays: FREE", x.takeDown(0, 0), 0);
        due("a STATUE on it stays: none", x.takeDown(3, 1), 0);
        for (int k : new int[] {4, -1, 64, Integer.MAX_VALUE, Integer.MIN_VALUE}) {
            due("takeDown(" + k + ", 0)", x.takeDown(k, 0), -2);
            due("reconcile(" + k + ", 0)", x.reconcile(k, 0), -2);
            due("blocks(" + k + ")", x.blocks(k), -2);
            due("frees(" + k + ", 0, 0)", x.frees(k, 0, 0), -2);
            int what = k == 4 ? 2 : k;
            due("takeDown(1, " + what + ")", x.takeDown(1, what), -2);
            due("reconcile(1, " + what + ")", x.reconcile(1, what), -2);
            due("frees(1, 0, " + what + ")", x.frees(1, 0, what), -2);
        }
        due("nothing was done", x.count(8), 0);
        // no STATUES
        x = Check.told("stones 2 2;");
        due("FREE without STATUES", x.takeDown(3, 0) + x.takeDown(3, 1) + x.reconcile(3, 0) + x.reconcile(3, 1), 0);
        due("blocks without STATUES", x.blocks(3), 0);
        due("frees without STATUES", x.frees(3, 60, 0), 0);
        due("frees without STATUES: first", x.frees(3, 60, 1), -1);
    }

    /** Promise 34: between who looks and the STONE, up to both; of two who look none. */
    private static void blocking() {
        TurnedStatues x = Check.told("stones 8 8;statue 7 0 looks 4;statue 0 7 looks 0 at 0;letter 0 from 0 to 1;");
        due("blocks(63)", x.blocks(63), Check.bits(15, 23, 31, 39, 47, 55));
        due("blocks(55)", x.blocks(55), Check.bits(15, 23, 31, 39, 47));
        due("blocks(23)", x.blocks(23), Check.bits(15));
        due("blocks(15)", x.blocks(15), 0);
        due("blocks(7), with a STATUE", x.blocks(7), 0);
        due("blocks(62), FREE already", x.blocks(62), 0);
        due("blocks(0)", x.blocks(0), Check.bits(48, 40, 32, 24, 16, 8));
        x = Check.told("stones 8 8;statue 7 7 looks 6;statue 0 0 looks 2 at 0;letter 0 from 0 to 1;");
        due("blocks(56)", x.blocks(56), Check.bits(57, 58, 59, 60, 61, 62));
        due("blocks(7)", x.blocks(7), Check.bits(1, 2, 3, 4, 5, 6));
        x = Check.told("stones 8 8;statue 7 7 looks 7;statue 0 7 looks 1 at 0;letter 0 from 0 to 1;");
        due("blocks(0) slanting", x.blocks(0), Check.bits(9, 18, 27, 36, 45, 54));
        due("blocks(7) slanting", x.blocks(7), Check.bits(49, 42, 35, 28, 21, 14));
        // two look at one STONE, from two sides, and from both sides of a row
        x = Check.told("stones 8 8;statue 7 0 looks 4;statue 0 7 looks 2 at 0;letter 0 from 0 to 1;");
        due("two LOOKS", x.blocks(63), 0);
        due("one of the two", x.blocks(61), Check.bits(57, 58, 59, 60));
        x = Check.told("stones 8 2;statue 0 0 looks 2;statue 7 0 looks 6 at 0;letter 0 from 0 to 1;");
        due("both sides", x.blocks(3), 0);
    }

    /** Promise 35: 0 and 60 NIGHTS, the first LETTER and the last one. */
    private static void freeing() {
        TurnedStatues x = Check.told(SEVENTH + "0;");
        due("26 is UNDER a LOOK", x.watchers(26), 128);
        int[][] due = {{26, 0, 0, 0}, {26, 0, 1, -1}, {26, 1, 0, 1}, {26, 1, 1, 76}, {26, 60, 0, 1}, {26, 60, 1, 76},
            // all LETTERS but from 7 to 0: seven from each, and six
            {0, 0, 0, 55}, {63, 0, 0, 55}, {63, 0, 1, 1}, {63, 60, 0, 55},
            // on 51 (3 6) none but 7 could look, and does from 6 only
            {51, 0, 0, 55}, {51, 1, 0, 54}, {51, 1, 1, 1}};
        for (int[] d : due) {
            due("frees(" + d[0] + ", " + d[1] + ", " + d[2] + ")", x.frees(d[0], d[1], d[2]), d[3]);
        }
        for (int n : new int[] {-1, 61, Integer.MAX_VALUE, Integer.MIN_VALUE}) {
            due("frees(26, " + n + ", 0)", x.frees(26, n, 0), -3);
            due("frees(26, " + n + ", 1)", x.frees(26, n, 1), -3);
            due("frees(26, " + n + ", 2)", x.frees(26, n, 2), -2);
            due("frees(26, " + n + ", -1)", x.frees(26, n, -1), -2);
            due("frees(64, " + n + ", 0)", x.frees(64, n, 0), -2);
            due("frees(-1, " + n + ", 0)", x.frees(-1, n, 0), -2);
        }
        // 7 turns on NIGHT 59, 60
        due("turned on 59, in 60", Check.told(SEVENTH + "59;").frees(26, 60, 1), 76);
        due("turned on 59, in 59", Check.told(SEVENTH + "59;").frees(26, 59, 1), -1);
        due("turned on 60, in 60", Check.told(SEVENTH + "60;").frees(26, 60, 0), 0);
        // one that is DOWN neither writes nor is written to; FOES already don't count
        x.down(6);
        due("6 is DOWN", x.frees(26, 60, 0), 0);
        due("6 is DOWN: 6 of 6, and 5", x.frees(63, 0, 0), 41);
        x.letter(0, 1);
        due("0 hates 1 already", x.frees(63, 0, 0), 40);
        due("0 hates 1 already: first", x.frees(63, 0, 1), 2);
        x.down(0);
        due("0 is DOWN: 6 of 5", x.frees(63, 0, 0), 30);
        due("0 is DOWN: first", x.frees(63, 0, 1), 12);
        due("nothing but these was done", x.count(8), 3);
        TurnedStatues one = Check.told("stones 2 2;statue 0 0 looks 2;");
        due("one alone", one.frees(1, 60, 0), 0);
        due("one alone: first", one.frees(1, 60, 1), -1);
    }

    private static void told(TurnedStatues x, int... dirs) {
        x.numbers(0, 0, dirs.length);
        for (int i = 0; i < dirs.length; i++) {
            x.write(0, i, dirs[i]);
        }
    }

    private static void sought(String what, TurnedStatues x, int n, int many, int from, int to) {
        due(what + " who wrote", x.writer(0, n, 0), from);
        due(what + " seen", x.seen(0, n), many);
        due(what + " FREE behind any LETTER", Math.min(0, x.frees(1, n, 0)), Math.min(0, many));
        due(what + " to whom", x.writer(0, n, 1), to);
    }

    /** Promise 36, 37: who can be told from how all stand. */
    private static void seen() {
        TurnedStatues x = Check.told(SEVENTH + "59;");
        told(x, -1, -1, -1, -1, -1, -1, -1, -1);
        sought("none seen, 0", x, 0, 56, -9, -9);
        sought("none seen, 60", x, 60, 56, -9, -9);
        told(x, -1, -1, -1, -1, -1, -1, -1, 1);
        sought("7 looks 1 in 59", x, 59, 0, -9, -9);
        sought("7 looks 1 in 60", x, 60, 1, 7, 6);
        told(x, 0, 0, 0, 0, 0, 0, 0, 1);
        sought("all seen in 60", x, 60, 1, 7, 6);
        told(x, 0, 0, 0, 0, 0, 0, 0, 0);
        sought("7 looks 0 in 60", x, 60, 55, -9, -9);
        sought("7 looks 0 in 0", x, 0, 56, -9, -9);
        told(x, 7, -1, -1, -1, -1, -1, -1, -1);
        sought("0 can't be so", x, 60, 0, -9, -9);
        told(x, -1, -1, -1, -1, -1, -1, 7, -1);
        sought("6 can't be so", x, 60, 0, -9, -9);
        for (int n : new int[] {-1, 61, Integer.MAX_VALUE, Integer.MIN_VALUE}) {
            sought("in " + n, x, n, -3, -3, -3);
            due("writer(0, " + n + ", 2)", x.writer(0, n, 2), -2);
        }
        told(x, 0, 0, 0, 0, 0, 0, 0, 0);
        x.down(7);
        sought("the DIRECTION of one that is DOWN", x, 0, 1 + 42, -9, -9);
        told(x, 0, 0, 0, 0, 0, 0, 0, 1);
        sought("not so of one that is DOWN", x, 60, 0, -9, -9);
        // alike by who wrote alone: 1 is in the middle, and has nothing to turn to but what it is written to
        String middle = "stones 5 5;statue 0 2 looks 6;statue 2 2 looks 0;statue 4 2 looks 2;statue 4 4 looks 4;";
        x = Check.told(middle + "rest : not me = 1;");
        told(x, -1, 1, -1, -1);
        sought("to one of the right side", x, 1, 2, 1, -9);
        sought("to one below", x, 3, 0, -9, -9);
        told(x, -1, 7, -1, -1);
        sought("to the left one", x, 1, 1, 1, 0);
        told(x, -1, 3, -1, -1);
        sought("to the one below on the right", x, 3, 1, 1, 3);
        told(x, -1, 0, -1, -1);
        sought("none of 1, or no LETTER at all", x, 1, 1 + 9, -9, -9);
        // alike by to whom alone: who has a foe rests
        x = Check.told("stones 5 5;statue 0 0 looks 7;statue 4 0 looks 1;statue 2 2 looks 2;statue 2 4 looks 4;letter 0 from 2 to 3;"
                + "rest : foes > 0 or not me = 2;");
        told(x, -1, -1, 2, -1);
        sought("2 rests by a LETTER to it", x, 1, 3, -9, 2);
        told(x, -1, -1, 3, -1);
        // 2 turns by none, by LETTERS of 0, 1, 3 to others (two each); not by those of 2, to whom north is nearer
        sought("2 turns", x, 1, 1 + 6, -9, -9);
        told(x, -1, -1, 1, -1);
        sought("2 turns the other way", x, 1, 2, 2, -9);
        // none alone
        x = Check.told("stones 2 2;statue 0 0 looks 5;");
        told(x, 5);
        sought("one alone", x, 60, 1, -1, -1);
        told(x, 4);
        sought("one alone, not so", x, 0, 0, -9, -9);
        x = Check.told("stones 2 2;statue 0 0 looks 5;statue 1 0 looks 5 at 0;letter 0 from 0 to 1;");
        told(x, -1, -1);
        sought("no LETTER is left", x, 0, 1, -1, -1);
    }

    /** Promise 36, 37: as many numbers as STATUES, each NONE to 7. */
    private static void seenTrays() {
        TurnedStatues x = Check.told(SEVENTH + "59;");
        for (int size = 0; size <= 40; size++) {
            x.numbers(1, 3, size);
            due("seen by " + size, x.seen(1, 0), size == 8 ? 56 : -4);
            due("seen by " + size + ", in 61", x.seen(1, 61), size == 8 ? -3 : -4);
            due("writer by " + size, x.writer(1, 0, 0), size == 8 ? -9 : -4);
        }
        long[] never = {-2, 8, 9, 127, -128, 255, Integer.MAX_VALUE, 1L << 32, (1L << 32) - 1, Long.MAX_VALUE, Long.MIN_VALUE};
        for (int at = 0; at < 8; at++) {
            x.numbers(1, 3, 8);
            for (int v = -1; v <= 7; v++) {
                x.write(1, at, v);
                due("seen " + v + " at " + at, x.seen(1, 0), v <= 0 ? 56 : 0);
                due("writer " + v + " at " + at, x.writer(1, 0, 1), -9);
            }
            for (long v : never) {
                x.write(1, at, v);
                due("seen " + v + " at " + at, x.seen(1, 0), -3);
                due("writer " + v + " at " + at, x.writer(1, 60, 0), -3);
                due("writer " + v + " at " + at + ", 2", x.writer(1, 60, 2), -2);
            }
            x = Check.told(SEVENTH + "59;");
        }
        x.numbers(1, 0, 8);
        x.write(1, 7, 255);
        due("255 of 8 bits is NONE", x.seen(1, 0), 56);
        for (int what : new int[] {-1, 2, Integer.MAX_VALUE, Integer.MIN_VALUE}) {
            due("writer(1, 0, " + what + ")", x.writer(1, 0, what), -2);
            due("writer(0, 0, " + what + "), MISSING", x.writer(0, 0, what), -2);
        }
        for (int tray : new int[] {-1, 4, Integer.MAX_VALUE, Integer.MIN_VALUE}) {
            due("seen(" + tray + ", 61)", x.seen(tray, 61), -2);
            due("writer(" + tray + ", 61, 0)", x.writer(tray, 61, 0), -2);
        }
        due("seen(0, 61), MISSING", x.seen(0, 61), -6);
        due("seen(3, 0), MISSING", x.seen(3, 0), -6);
        due("writer(2, 61, 1), MISSING", x.writer(2, 61, 1), -6);
        x.numbers(3, 0, 8);
        due("seen(3, 0)", x.seen(3, 0), 56);
        due("nothing was done", x.count(8) + x.count(4), 0);
    }

    /** Promise 38. */
    private static void turners() {
        for (int n : new int[] {-1, 61, Integer.MAX_VALUE, Integer.MIN_VALUE}) {
            due("turners(" + n + ")", Check.told(SEVENTH + "59;").turners(n), -3);
        }
        int[][] turnOn = {{0, 0, 0}, {0, 1, 128}, {0, 60, 128}, {1, 1, 0}, {1, 2, 128}, {59, 59, 0}, {59, 60, 128}, {60, 60, 0}};
        for (int[] t : turnOn) {
            TurnedStatues x = Check.told(SEVENTH + t[0] + ";");
            x.letter(7, 6);
            due("turners(" + t[1] + "), turned on " + t[0], x.turners(t[1]), t[2]);
            due("no NIGHT", x.count(4), 0);
        }
        TurnedStatues x = Check.told("stones 8 8;statue 0 0 looks 6;statue 1 0 looks 2 at 0;statue 2 0 looks 2 at 0;statue 3 0 looks 2 at 0;"
                + "statue 4 0 looks 2 at 0;statue 5 0 looks 2 at 0;statue 6 0 looks 2 at 0;statue 7 0 looks 2 at 0;letter 0 from 0 to 7;");
        due("turners(0)", x.turners(0), 0);
        due("all turn", x.turners(1), 255);
        x.nights(3);
        due("all turn to the end", x.turners(60), 255);
        x.nights(1);
        due("all are done", x.turners(60), 0);
        // by a letter to come: 0 turns as its new FOE is elsewhere
        x = Check.told("stones 3 3;statue 0 0 looks 2;statue 2 0 looks 6 at 0;statue 0 2 looks 0 at 0;letter 0 from 0 to 1;letter 60 from 0 to 2;");
        due("the letter comes behind NIGHT 59", x.turners(60), 0);
        x.nights(1);
        due("it turns on NIGHT 60", x.turners(60), 1);
        due("it turns on NIGHT 60, in 59", x.turners(59), 0);
    }

    public static void main(String[] args) {
        freeIn();
        eightAround();
        takingDown();
        blocking();
        freeing();
        seen();
        seenTrays();
        turners();
        CHECK.end();
    }
}
