/** Promises 39 to 44 and the terms they use, at their edges: TRAYS, IMAGES, counts. */
public final class TraysEdgesTest {
    private static final Check CHECK = new Check();
    private static final String THREE = "stones 3 3;statue 0 0 looks 7;statue 2 0 looks 0 at 0;statue 0 2 looks 5;";

    private static void due(String call, long got, long want) {
        CHECK.due(call, got, want);
    }

    /** Promise 39: TRAYS 0 to 3, sorts 0 to 3, 0 to 40 numbers. */
    private static void numbers() {
        TurnedStatues x = Check.told(THREE);
        for (int tray = 0; tray < 4; tray++) {
            for (int other = 0; other < 4; other++) {
                due("MISSING as yet " + other, x.write(other, 0, 1), other < tray ? 1 : -6);
            }
            for (int sort = 0; sort < 4; sort++) {
                due("numbers(" + tray + ", " + sort + ", 40)", x.numbers(tray, sort, 40), 0);
                due("the last one", x.write(tray, 39, -1), -1);
                due("numbers(" + tray + ", " + sort + ", 1)", x.numbers(tray, sort, 1), 0);
                due("the only one", x.write(tray, 0, 1), 1);
                due("the second one", x.write(tray, 1, 1), -7);
            }
        }
        for (int tray : new int[] {-1, 4, Integer.MAX_VALUE, Integer.MIN_VALUE}) {
            due("numbers(" + tray + ", 0, 1)", x.numbers(tray, 0, 1), -2);
            due("numbers(" + tray + ", 4, 41)", x.numbers(tray, 4, 41), -2);
            due("write(" + tray + ", 0, 1)", x.write(tray, 0, 1), -2);
            due("copy(" + tray + ")", x.copy(tray), -2);
        }
        for (int sort : new int[] {-1, 4, Integer.MAX_VALUE, Integer.MIN_VALUE}) {
            due("numbers(0, " + sort + ", 1)", x.numbers(0, sort, 1), -2);
            due("numbers(0, " + sort + ", 41)", x.numbers(0, sort, 41), -2);
        }
        for (int n : new int[] {-1, 41, Integer.MAX_VALUE, Integer.MIN_VALUE}) {
            due("numbers(0, 0, " + n + ")", x.numbers(0, 0, n), -3);
        }
        // refused, the TRAY stays: one number of 64 bits
        due("as wide as it was", x.write(0, 0, 1L << 40), 1L << 40);
        due("as long as it was", x.write(0, 1, 0), -7);
        for (int n = 0; n <= 40; n++) {
            due("numbers(2, 0, " + n + ")", x.numbers(2, 0, n), 0);
            due("write, first of " + n, x.write(2, 0, 7), n > 0 ? 7 : -7);
            due("write, last of " + n, x.write(2, n - 1, 7), n > 0 ? 7 : -7);
            due("write, behind " + n, x.write(2, n, 7), -7);
        }
    }

    /** All 0, in place of another one. */
    private static void allZero() {
        TurnedStatues x = Check.told("stones 8 8;statue 0 0 looks 0;statue 1 0 looks 0;statue 2 0 looks 0;statue 3 0 looks 0;"
                + "statue 4 0 looks 0;statue 5 0 looks 0;statue 6 0 looks 0;statue 7 0 looks 0;");
        for (int sort = 0; sort < 4; sort++) {
            for (int at = 0; at < 8; at++) {
                x.numbers(0, sort, 8);
                due("all look 0: none, or any of 56", x.seen(0, 0), 57);
                x.write(0, at, 3);
                due("one looks 3", x.seen(0, 0), 0);
            }
            x.numbers(0, sort, 8);
            due("0 in its place", x.seen(0, 0), 57);
        }
        // 40 of -1 are NIGHTS; of a new TRAY the first is 0, which can't be
        x.numbers(1, 0, 40);
        for (int at = 0; at < 40; at++) {
            due("judge up to " + at, x.judge(1, 0), at);
            x.write(1, at, -1);
        }
        due("40 NIGHTS", x.judge(1, 0), -1);
        x.numbers(1, 0, 40);
        for (int at = 0; at < 40; at++) {
            due("judge anew up to " + at, x.judge(1, 0), at);
            x.write(1, at, -1);
        }
        x.numbers(1, 0, 39);
        x.numbers(1, 0, 40);
        due("none is left of 40", x.judge(1, 0), 0);
        due("the other TRAY stays", x.seen(0, 0), 57);
    }

    /** Promise 40: the ends of each sort, and one beyond. */
    private static void cut() {
        TurnedStatues x = new TurnedStatues();
        for (int sort = 0; sort < 4; sort++) {
            x.numbers(sort, sort, 2);
        }
        for (int bits = 8, sort = 0; sort < 3; bits *= 2, sort++) {
            long half = 1L << bits - 1;
            long[][] cut = {{0, 0}, {1, 1}, {-1, -1}, {half - 1, half - 1}, {half, -half}, {-half, -half}, {-half - 1, half - 1},
                {2 * half - 1, -1}, {2 * half, 0}, {2 * half + 1, 1}, {-2 * half, 0}, {-2 * half - 1, -1}, {Long.MAX_VALUE, -1},
                {Long.MIN_VALUE, 0}};
            for (long[] c : cut) {
                due(bits + " bits of " + c[0], x.write(sort, 1, c[0]), c[1]);
                due("64 bits of " + c[0], x.write(3, 1, c[0]), c[0]);
            }
        }
        long[] all = {0, -1, Long.MAX_VALUE, Long.MIN_VALUE, 1L << 32, (1L << 32) - 1, -1L << 32, 1L << 62};
        for (long v : all) {
            due("64 bits of " + v, x.write(3, 0, v), v);
        }
        for (int tray = 0; tray < 4; tray++) {
            due("write(" + tray + ", 2)", x.write(tray, 2, 1), -7);
            due("write(" + tray + ", most)", x.write(tray, Integer.MAX_VALUE, 1), -7);
            due("write(" + tray + ", -1)", x.write(tray, -1, 1), -7);
            due("write(" + tray + ", least)", x.write(tray, Integer.MIN_VALUE, 1), -7);
        }
        // what is written is there: NIGHTS, and 100 where there are no STATUES
        x.numbers(0, 0, 3);
        due("write(0, 2, 255)", x.write(0, 2, 255), -1);
        due("write(0, 0, -257)", x.write(0, 0, -257), -1);
        due("write(0, 1, 100)", x.write(0, 1, 100), 100);
        due("judge", x.judge(0, 0), 1);
        due("write(0, 1, -1)", x.write(0, 1, -1), -1);
        due("judge then", x.judge(0, 0), -1);
    }

    /** Promise 41: fewer places, as many, more. */
    private static void copies() {
        for (int statues = 0; statues <= 8; statues++) {
            StringBuilder b = new StringBuilder("stones 8 8;");
            for (int s = 0; s < statues; s++) {
                b.append("statue ").append(s).append(" 0 looks ").append(7 - s).append(';');
            }
            TurnedStatues x = Check.told(b.toString());
            if (statues > 0) {
                x.down(statues - 1);
            }
            due("copy of a MISSING one", x.copy(3), -6);
            for (int size : new int[] {0, 1, statues - 1, statues, statues + 1, 40}) {
                if (size < 0) {
                    continue;
                }
                x.numbers(3, 0, size);
                due("copy of " + statues + " to " + size, x.copy(3), Math.min(size, statues));
                due("the TRAY has as many", x.write(3, size, 1), -7);
                if (size == statues) {
                    int standing = Math.max(0, statues - 1);
                    due("as all look", x.seen(3, 0), 1 + standing * Math.max(0, standing - 1));
                }
            }
        }
        // places beyond the STATUES keep what they had: a NIGHT
        TurnedStatues x = Check.told("stones 2 2;statue 0 0 looks 1;statue 1 0 looks 1;");
        Check.tray(x, 0, 2, 0, 0, -1, 0);
        due("copy of two to four", x.copy(0), 2);
        due("letters 1, 1, a NIGHT", x.judge(0, 0), 3);
        x.nights(5);
        due("copy is no DEED", x.count(8), 1);
    }

    /** All that an IMAGE has. */
    private static int[] all(TurnedStatues x) {
        int[] all = new int[12 + 8 * 6 + 64 + 2];
        int n = 0;
        for (int what = 0; what < 12; what++) {
            all[n++] = what == 8 || what == 9 ? 0 : x.count(what);
        }
        for (int s = 0; s < 8; s++) {
            for (int what = 0; what < 6; what++) {
                all[n++] = x.statue(s, what);
            }
        }
        for (int k = 0; k < 64; k++) {
            all[n++] = x.stone(k);
        }
        all[n++] = x.still();
        all[n] = x.turners(60);
        return all;
    }

    /** What NIGHTS change. */
    private static int[] changing(TurnedStatues x) {
        int[] all = new int[3 + 8 * 3];
        for (int s = 0; s < 8; s++) {
            all[3 * s] = x.statue(s, 1);
            all[3 * s + 1] = x.statue(s, 2);
            all[3 * s + 2] = x.statue(s, 5);
        }
        all[24] = x.count(4);
        all[25] = x.count(5);
        all[26] = x.count(7);
        return all;
    }

    /** Eight STATUES, ten letters and peaces, four snows, a wall, a fountain, a law. */
    private static String full() {
        StringBuilder b = new StringBuilder("stones 8 8;");
        for (int s = 0; s < 8; s++) {
            b.append("statue ").append(s).append(" 7 looks ").append(7 - s).append(s > 0 ? " at 0;" : ";");
        }
        b.append("letter 9 from 7 to 6;peace 9 from 7;".repeat(4)).append("letter 4 from 0 to 7;peace 3 from 7;");
        return b + "snow 2 for 1;snow 999 for 99;snow 5 for 2;snow 1 for 1;wall 0 0;fountain 7 0;rest : me = 3 and night < 9;";
    }

    private static TurnedStatues fullInNight3() {
        TurnedStatues x = Check.told(full());
        x.nights(3);
        x.down(5);
        x.letter(6, 7);
        return x;
    }

    /** Promise 42, 43: all of THE SQUARE, STATUES, FOES, NIGHT, at its fullest and at its emptiest. */
    private static void images() {
        TurnedStatues x = Check.told(full());
        for (int i : new int[] {-1, 2, Integer.MAX_VALUE, Integer.MIN_VALUE}) {
            due("image(" + i + ")", x.image(i), -2);
            due("restore(" + i + ")", x.restore(i), -2);
        }
        due("restore(0), none made", x.restore(0), -5);
        due("restore(1), none made", x.restore(1), -5);
        for (String other : new String[] {"", "stones 2 2;", "rest : 1 = 1;"}) {
            int[] want = all(fullInNight3());
            x = fullInNight3();
            due("image(0)", x.image(0), 0);
            due("to undo behind image()", x.count(8), 3);
            due("restore(1), none made", x.restore(1), -5);
            due("told anew", Check.tell(x, other), other.isEmpty() ? 0 : 1);
            due("image(1)", x.image(1), 0);
            due("restore(0)", x.restore(0), 0);
            CHECK.same("as it was", all(x), want);
            due("nothing to undo", x.undo(1), -3);
            due("restore(1)", x.restore(1), 0);
            CHECK.same("as the other was", all(x), all(Check.told(other)));
            due("nothing to undo there", x.count(8), 0);
        }
    }

    /** The law, snow, letters to come are those of the IMAGE: NIGHTS go by as if it had never been left. */
    private static void nightsOfAnImage() {
        TurnedStatues x = Check.told(full());
        x.image(1);
        Check.tell(x, "stones 2 2;statue 0 0 looks 0;statue 1 1 looks 0 at 0;letter 1 from 0 to 1;snow 0 for 5;rest : 1 = 2;");
        x.nights(2);
        x.restore(1);
        TurnedStatues y = Check.told(full());
        for (int night = 0; night < 11; night++) {
            CHECK.same("NIGHT " + night, changing(x), changing(y));
            due("turned on NIGHT " + night, x.nights(1), y.nights(1));
        }
        due("snow 1, 2, 5, 6; a letter on 4", x.statue(0, 2), 7);
        due("the last of four letters and four peaces", x.statue(7, 2), -1);
        due("none to come", x.count(7), 0);
    }

    /** What is no part of an IMAGE: THE TAPE, TRAYS, the FAULT; both IMAGES stand for themselves, and are made anew. */
    private static void besideImages() {
        TurnedStatues x = Check.told(THREE);
        Check.tray(x, 0, 0, -1, 77, -1);
        x.image(0);
        due("a fault", Check.tell(x, "stones 9"), -33);
        Check.feed(x, "snow");
        x.numbers(0, 0, 1);
        x.write(0, 0, -1);
        x.nights(4);
        x.image(1);
        due("image() undoes nothing", x.count(8), 1);
        x.nights(5);
        due("NIGHT", x.count(4), 9);
        due("restore(1)", x.restore(1), 0);
        due("NIGHT 4", x.count(4), 4);
        due("nothing to undo", x.undo(1), -3);
        due("restore(0)", x.restore(0), 0);
        due("NIGHT 0", x.count(4), 0);
        due("THE TAPE stays", x.count(9), 20);
        due("the TRAY stays", x.judge(0, 0), -1);
        due("the FAULT stays", x.fault(0), 3);
        due("its place stays", x.fault(1), 7);
        x.nights(1);
        due("one to undo", x.count(8), 1);
        due("restore(1) again", x.restore(1), 0);
        due("NIGHT 4 again", x.count(4), 4);
        due("undo", x.undo(1), -3);
        x.nights(2);
        due("made anew", x.image(1), 0);
        x.nights(2);
        due("restore the new one", x.restore(1), 0);
        due("NIGHT 6", x.count(4), 6);
        due("restore the other one", x.restore(0), 0);
        due("NIGHT 0 still", x.count(4), 0);
        due("restore it twice", x.restore(0), 0);
        due("what was on THE TAPE", x.square(20), -32);
        due("end behind snow", x.fault(1), 20);
        // a refused restore undoes nothing
        TurnedStatues y = Check.told(THREE);
        y.nights(2);
        due("none was made", y.restore(0), -5);
        due("no such", y.restore(2), -2);
        due("NIGHT 2", y.count(4), 2);
        due("to undo", y.undo(1), 0);
    }

    /** Promise 44: each at its least and its most. */
    private static void counts() {
        StringBuilder b = new StringBuilder("stones 8 8;");
        for (int s = 0; s < 8; s++) {
            b.append("statue ").append(s).append(" 0 looks 0;");
        }
        b.append("letter 1 from 0 to 1;".repeat(9)).append("peace 2 from 1;snow 12 for 1;");
        TurnedStatues x = Check.told(b.toString());
        for (int i = 0; i < 12; i++) {
            due("STATUES", x.count(2), 8);
            due("those that stand", x.count(3), Math.max(0, 8 - i));
            due("calls that can be UNDONE", x.count(8), Math.min(i, 10));
            due("NIGHT", x.count(4), Math.max(0, i - 8));
            due("letters and peaces told", x.count(6), 10);
            due("those still to come", x.count(7), i < 9 ? 10 : i == 9 ? 1 : 0);
            due("snow", x.count(5), 0);
            if (i < 8) {
                x.down(i);
            } else {
                x.nights(1);
            }
        }
        x.nights(8);
        due("snow on NIGHT 12", x.count(5), 1);
        due("LINES", x.count(10), 20);
        due("WIDE", x.count(0), 8);
        due("HIGH", x.count(1), 8);
        due("no walls, fountains", x.count(11), 0);
        for (int what : new int[] {-1, 12, 13, Integer.MAX_VALUE, Integer.MIN_VALUE}) {
            due("count(" + what + ")", x.count(what), -1);
        }
        StringBuilder walls = new StringBuilder("stones 2 8;");
        for (int k = 0; k < 16; k++) {
            walls.append(k % 3 == 0 ? "wall " : "fountain ").append(k % 2).append(' ').append(k / 2).append(';');
        }
        x = Check.told(walls.toString());
        due("walls and fountains", x.count(11), 16);
        due("WIDE", x.count(0), 2);
        due("HIGH", x.count(1), 8);
        due("LINES", x.count(10), 17);
        due("none to go from", x.reach(0, 40), -5);
        for (int n : new int[] {0, 1, 99, 100}) {
            due("LINES of rest", Check.told("rest:1=1;".repeat(n)).count(10), n);
        }
    }

    public static void main(String[] args) {
        numbers();
        allZero();
        cut();
        copies();
        images();
        nightsOfAnImage();
        besideImages();
        counts();
        CHECK.end();
    }
}
