/** Each promise by a few calls whose answers were worked out by hand. */
public final class PromisesTest {
    private static final Check CHECK = new Check();
    /**
     * STONES by 6 y + x: STATUE 0 on 7 (no FOE), 1 on 10 (looks west at 0), 2 on 25 (looks north, at 1, who is north-east).
     * On NIGHT 3 STATUE 0 hates 2.
     */
    private static final String PLAIN = "stones 6 5; statue 1 1 looks 2; statue 4 1 looks 6 at 0; "
            + "statue 1 4 looks 0 at 1; wall 3 3; fountain 0 0; letter 3 from 0 to 2;";

    private static void due(String call, long got, long want) {
        CHECK.due(call, got, want);
    }

    private static TurnedStatues plain() {
        return Check.told(PLAIN);
    }

    private static void aNewObject() {
        TurnedStatues x = new TurnedStatues();
        due("NONE", TurnedStatues.NONE, -1);
        for (int what = 0; what < 12; what++) {
            due("new count", x.count(what), 0);
        }
        due("new stone", x.stone(0), -2);
        due("new look", x.look(0), -2);
        due("new under", x.under(), 0);
        due("new watchers", x.watchers(0), -2);
        due("new fault", x.fault(0), 0);
        due("new fault place", x.fault(1), -1);
        due("new undo", x.undo(1), -3);
        for (int tray = 0; tray < 4; tray++) {
            due("new tray", x.perform(tray), -6);
        }
        for (int i = 0; i < 2; i++) {
            due("new image", x.restore(i), -5);
        }
    }

    private static void feeding() {
        TurnedStatues x = new TurnedStatues();
        for (int i = 1; i <= 45; i++) {
            due("feed", x.feed(0x73746f6e, 0x65732032, 0x20323b20, 0x20202020, 0x20202020), 20 * i);
        }
        due("feed over", x.feed(1, 2, 3, 4, 5), -5);
        due("fed", x.count(9), 900);
        due("square(901)", x.square(901), -3);
        due("square(-1)", x.square(-1), -3);
        due("still fed", x.count(9), 900);
        due("square(900)", x.square(900), -32);
        due("second stones", x.fault(1), 20);
        due("empty", x.count(9), 0);
        due("square(1)", x.square(1), -3);
        due("fault stays", x.fault(0), 2);
        due("feed anew", x.feed(0x73746f6e, 0x65732032, 0x20323b20, 0x20202020, 0x20202080), 20);
        due("square(19)", x.square(19), 1);
        due("empty again", x.count(9), 0);
        due("fault gone", x.fault(0), 0);
        due("place gone", x.fault(1), -1);
        due("fault(2)", x.fault(2), -1);
        due("fault(-1)", x.fault(-1), -1);
    }

    private static void squares() {
        TurnedStatues x = plain();
        due("lines", x.count(10), 7);
        x.nights(2);
        x.down(1);
        due("faulty", Check.tell(x, "stones 3 3;wall 0 0;wall 0 0;"), -33);
        due("night stays", x.count(4), 2);
        due("undoing stays", x.count(8), 2);
        due("square stays", x.count(0), 6);
        due("blocks stay", x.count(11), 2);
        due("statues stay", x.statue(1, 0), -1);
        due("undo", x.undo(1), 1);
        due("new square", Check.tell(x, "stones 3 2;wall 0 0;"), 2);
        int[] counts = {3, 2, 0, 0, 0, 0, 0, 0, 0, 0, 2, 1};
        for (int what = 0; what < counts.length; what++) {
            due("count(" + what + ")", x.count(what), counts[what]);
        }
        due("no statues", x.statue(0, 0), -8);
        due("square(0)", x.square(0), 0);
        due("no stones", x.count(0), 0);
        due("no walls", x.stone(0), -2);
    }

    private static void statuesOf() {
        TurnedStatues x = plain();
        int[][] due = {{7, 2, -1, 0, -1, 0}, {10, 6, 0, 0, 0, 0}, {25, 0, 1, 1, 0, 1}};
        for (int s = 0; s < 3; s++) {
            for (int what = 0; what < 6; what++) {
                due("statue(" + s + ", " + what + ")", x.statue(s, what), due[s][what]);
            }
        }
        due("statue(3, 0)", x.statue(3, 0), -8);
        due("statue(-1, 0)", x.statue(-1, 0), -8);
        due("statue(0, 6)", x.statue(0, 6), -8);
        due("statue(0, -1)", x.statue(0, -1), -8);
        int[][] stones = {{7, 0}, {10, 1}, {25, 2}, {21, -10}, {0, -11}, {1, -1}, {29, -1}, {30, -2}, {-1, -2}};
        for (int[] stone : stones) {
            due("stone(" + stone[0] + ")", x.stone(stone[0]), stone[1]);
        }
        due("look(0)", x.look(0), 0);
        due("look(1)", x.look(1), Check.bits(8, 9));
        due("look(2)", x.look(2), Check.bits(13, 19));
        due("look(3)", x.look(3), -2);
        due("look(-1)", x.look(-1), -2);
        due("under()", x.under(), Check.bits(8, 9, 13, 19));
        due("watchers(8)", x.watchers(8), 2);
        due("watchers(13)", x.watchers(13), 4);
        due("watchers(7)", x.watchers(7), 0);
        due("watchers(30)", x.watchers(30), -2);
        due("watchers(-1)", x.watchers(-1), -2);
        x.down(1);
        due("foe DOWN: foe", x.statue(2, 2), 1);
        due("foe DOWN: off", x.statue(2, 3), 0);
        due("foe DOWN: sees", x.statue(2, 4), -1);
        due("foe DOWN: look", x.look(2), 0);
        due("DOWN: towards", x.towards(1), -1);
        due("DOWN: off", x.statue(1, 3), 0);
        due("DOWN: dir", x.statue(1, 1), 6);
        due("DOWN: stone", x.stone(10), -1);
    }

    /** Where STATUE 1 on (x, y) has to turn for STATUE 0 on (4, 4). */
    private static void aims(int x, int y, int dir) {
        TurnedStatues t = Check.told("stones 8 8;statue 4 4 looks 0;statue " + x + " " + y + " looks 0 at 0;");
        due("towards from " + x + " " + y, t.towards(1), dir);
        due("off from " + x + " " + y, t.statue(1, 3), Math.min(dir, 8 - dir));
    }

    private static void towardsFoes() {
        aims(4, 7, 0);
        aims(3, 7, 0);
        aims(5, 7, 0);
        aims(3, 6, 1);
        aims(2, 7, 1);
        aims(2, 5, 1);
        aims(1, 5, 2);
        aims(1, 4, 2);
        aims(1, 3, 2);
        aims(2, 3, 3);
        aims(0, 0, 3);
        aims(3, 2, 3);
        aims(3, 1, 4);
        aims(4, 1, 4);
        aims(5, 1, 4);
        aims(5, 2, 5);
        aims(6, 2, 5);
        aims(6, 3, 5);
        aims(7, 3, 6);
        aims(7, 4, 6);
        aims(7, 5, 6);
        aims(6, 5, 7);
        aims(5, 6, 7);
        TurnedStatues x = plain();
        due("towards(0)", x.towards(0), -1);
        due("towards(1)", x.towards(1), 6);
        due("towards(2)", x.towards(2), 1);
        due("towards(3)", x.towards(3), -2);
        due("towards(-1)", x.towards(-1), -2);
    }

    private static void looksAlong() {
        int[][] ends = {{4, 0}, {7, 1}, {7, 4}, {7, 7}, {4, 7}, {1, 7}, {0, 4}, {0, 0}};
        for (int dir = 0; dir < 8; dir++) {
            TurnedStatues x = Check.told("stones 8 8;statue 3 1 looks 0;statue 4 4 looks " + dir + " at 0;");
            long bits = 0;
            int dx = Integer.signum(ends[dir][0] - 4);
            int dy = Integer.signum(ends[dir][1] - 4);
            for (int i = 1; i <= 4 && 4 + i * dx < 8 && 4 + i * dy < 8; i++) {
                bits |= Check.bits(8 * (4 + i * dy) + 4 + i * dx);
            }
            due("look along " + dir, x.look(1), bits);
            due("under along " + dir, x.under(), bits);
            due("sees none along " + dir, x.statue(1, 4), -1);
        }
        TurnedStatues x = Check.told("stones 8 2;statue 0 0 looks 2;statue 7 0 looks 6 at 0;wall 3 0;letter 0 from 0 to 1;");
        due("to a wall", x.look(0), Check.bits(1, 2));
        due("to the wall's other side", x.look(1), Check.bits(4, 5, 6));
        due("no one at the wall", x.statue(0, 4), -1);
        x = Check.told("stones 8 2;statue 0 0 looks 2;statue 7 0 looks 6 at 0;fountain 6 0;letter 0 from 0 to 1;");
        due("to a fountain", x.look(0), Check.bits(1, 2, 3, 4, 5));
        due("no STONE ahead of it", x.look(1), 0);
        due("no one at the fountain", x.statue(1, 4), -1);
    }

    private static void nightsGoBy() {
        TurnedStatues x = plain();
        due("nights(0)", x.nights(0), -3);
        due("nights(100)", x.nights(100), -3);
        due("nights(-1)", x.nights(-1), -3);
        due("no NIGHT went by", x.count(4), 0);
        due("nights(1)", x.nights(1), 1);
        due("2 looks", x.statue(2, 1), 1);
        due("2 sees", x.statue(2, 4), 1);
        due("2's look", x.look(2), Check.bits(20, 15));
        due("nights(2)", x.nights(2), 0);
        due("letter came", x.statue(0, 2), 2);
        due("would turn", x.statue(0, 5), 1);
        due("still to come", x.count(7), 0);
        due("told", x.count(6), 1);
        due("nights(99)", x.nights(99), 2);
        due("0 looks", x.statue(0, 1), 4);
        due("night", x.count(4), 102);
        // of like ways with the clock; else the shorter one
        int[][] turns = {{0, 1}, {1, 2}, {2, 3}, {3, 4}, {4, 4}, {5, 4}, {6, 5}, {7, 6}};
        for (int[] turn : turns) {
            TurnedStatues y = Check.told("stones 2 3;statue 0 2 looks 0;statue 0 0 looks " + turn[0] + " at 0;");
            y.nights(1);
            due("turns from " + turn[0], y.statue(1, 1), turn[1]);
        }
        x = Check.told("stones 2 2;statue 0 0 looks 7;statue 1 0 looks 0;statue 0 1 looks 0;letter 0 from 0 to 1;"
                + "peace 1 from 0;letter 1 from 0 to 2;letter 2 from 0 to 1;peace 2 from 0;letter 3 from 1 to 0;");
        due("letter of NIGHT 0", x.statue(0, 2), 1);
        due("all but NIGHT 0 to come", x.count(7), 5);
        x.nights(1);
        due("peace, then a letter", x.statue(0, 2), 2);
        due("three to come", x.count(7), 3);
        x.nights(1);
        due("a letter, then peace", x.statue(0, 2), -1);
        x.down(0);
        x.nights(1);
        due("a letter to one that is DOWN", x.statue(1, 2), 0);
    }

    private static void snowAndRest() {
        String two = "stones 3 3;statue 0 0 looks 4;statue 2 2 looks 7 at 0;letter 0 from 0 to 1;";
        TurnedStatues x = Check.told(two + "snow 0 for 2;");
        due("snow: would not turn", x.statue(0, 5), 0);
        due("snow: off", x.statue(0, 3), 1);
        due("snow lies", x.count(5), 1);
        due("snow: nights(2)", x.nights(2), 0);
        due("snow is gone", x.count(5), 0);
        due("snow is gone: would turn", x.statue(0, 5), 1);
        due("snow is gone: nights(1)", x.nights(1), 1);
        due("snow: facing", Check.told(two + "snow 0 for 2;").facing(0), 3);
        due("snow later: facing", Check.told(two + "snow 1 for 99;").facing(0), 1);
        due("snow and rest: facing", Check.told(two + "snow 0 for 2;rest : night = 2;").facing(0), 4);
        due("rest of 0: facing", Check.told(two + "rest : me = 0 and night < 9;").facing(0), 10);
        due("rest of 1: facing", Check.told(two + "rest : me = 1;").facing(0), 1);
        due("rest by week", Check.told(two + "snow 0 for 6;rest : not week = 3;").facing(0), 11);
        due("rest always", Check.told(two + "rest : 1 = 1;").facing(0), -1);
        due("rest to NIGHT 198", Check.told(two + "rest : night < 199;").facing(0), 200);
        due("rest to NIGHT 199", Check.told(two + "rest : night < 200;").facing(0), -1);
    }

    private static void deeds() {
        TurnedStatues x = plain();
        due("letter(0, 1)", x.letter(0, 1), -1);
        due("letter(0, 1) again", x.letter(0, 1), 1);
        due("letter(0, 2)", x.letter(0, 2), 1);
        due("letter(1, 1)", x.letter(1, 1), -11);
        due("letter(3, 0)", x.letter(3, 0), -11);
        due("letter(0, 3)", x.letter(0, 3), -11);
        due("letter(-1, 0)", x.letter(-1, 0), -11);
        due("peace(1)", x.peace(1), 0);
        due("peace(1) again", x.peace(1), -1);
        due("peace(3)", x.peace(3), -11);
        due("down(1)", x.down(1), 10);
        due("down(1) again", x.down(1), -12);
        due("down(3)", x.down(3), -11);
        due("letter(0, 1) DOWN", x.letter(0, 1), -12);
        due("letter(1, 0) DOWN", x.letter(1, 0), -12);
        due("peace(1) DOWN", x.peace(1), -12);
        due("up(1, 7)", x.up(1, 7), -13);
        due("up(1, 21)", x.up(1, 21), -13);
        due("up(1, 0)", x.up(1, 0), -13);
        due("up(1, 30)", x.up(1, 30), -11);
        due("up(1, -1)", x.up(1, -1), -11);
        due("up(3, 8)", x.up(3, 8), -11);
        due("up(0, 30)", x.up(0, 30), -11);
        due("up(0, 7)", x.up(0, 7), -12);
        due("all done", x.count(8), 6);
        due("up(1, 27)", x.up(1, 27), 4 + 2);
        due("set up", x.statue(1, 0), 27);
        due("its direction", x.statue(1, 1), 6);
        due("its FOE", x.statue(1, 2), -1);
        due("those that stand", x.count(3), 3);
    }

    private static void undoing() {
        TurnedStatues x = plain();
        x.nights(1);
        x.down(2);
        x.letter(0, 1);
        due("undo(1)", x.undo(1), 2);
        due("letter undone", x.statue(0, 2), -1);
        due("undo(3)", x.undo(3), -3);
        due("undo(0)", x.undo(0), -3);
        due("undo(-1)", x.undo(-1), -3);
        due("undo(2)", x.undo(2), 0);
        due("down undone", x.statue(2, 0), 25);
        due("turn undone", x.statue(2, 1), 0);
        due("night undone", x.count(4), 0);
        for (int i = 1; i <= 12; i++) {
            due("nights(1)", x.nights(1) >= 0 ? 1 : 0, 1);
            due("can be undone", x.count(8), Math.min(i, 10));
        }
        due("undo(11)", x.undo(11), -3);
        due("undo(3) of 10", x.undo(3), 7);
        due("night", x.count(4), 9);
        x.peace(0);
        due("undo(8)", x.undo(8), 0);
        due("eldest are forgotten", x.count(4), 2);
        due("nothing more", x.undo(1), -3);
    }

    private static void traysOfDeeds() {
        TurnedStatues x = plain();
        due("judge none", x.judge(0, 0), -6);
        due("judge(4, 0)", x.judge(4, 0), -2);
        due("judge(-1, 0)", x.judge(-1, 0), -2);
        due("judge(0, 4)", x.judge(0, 4), -2);
        due("judge(0, -1)", x.judge(0, -1), -2);
        due("perform(4)", x.perform(4), -2);
        due("perform(0)", x.perform(0), -6);
        Check.tray(x, 0, 2, 201, 1, -1);
        int[] one = {1, 2, 0, 0};
        Check.tray(x, 1, 2, -1, 1, -1);
        int[] all = {-1, 0, 1, 4};
        Check.tray(x, 2, 2);
        int[] none = {-1, 0, 0, 4};
        Check.tray(x, 3, 2, 202, 1225, 202, 1207);
        int[] taken = {3, 3, 0, 2};
        for (int what = 0; what < 4; what++) {
            due("judge(0, " + what + ")", x.judge(0, what), one[what]);
            due("judge(1, " + what + ")", x.judge(1, what), all[what]);
            due("judge(2, " + what + ")", x.judge(2, what), none[what]);
            due("judge(3, " + what + ")", x.judge(3, what), taken[what]);
        }
        due("judging does nothing", x.count(4) + x.count(8), 0);
        due("perform(2)", x.perform(2), 0);
        due("nothing to undo", x.count(8), 0);
        due("perform(1)", x.perform(1), 3);
        due("one to undo", x.count(8), 1);
        due("nights went by", x.count(4), 2);
        due("letter found", x.statue(0, 2), 1);
        due("undo(1)", x.undo(1), 0);
        due("night", x.count(4), 0);
        due("FOE", x.statue(0, 2), -1);
        due("2's direction", x.statue(2, 1), 0);
        due("perform(0)", x.perform(0), 1);
        due("taken down", x.statue(1, 0), -1);
        long[][] why = {{-2, 1}, {-256, 1}, {3, 1}, {8, 1}, {33, 1}, {78, 1}, {80, 1}, {99, 1}, {103, 1}, {108, 1},
            {203, 1}, {300, 1}, {999, 1}, {1030, 1}, {1130, 1}, {1164, 1}, {1310, 1}, {1800, 1}, {100, 0}, {101, 2},
            {1, 2}, {10, 2}, {20, 0}, {200, 0}, {201, 2}, {1008, 2}, {1107, 3}, {1121, 3}, {1100, 3}, {1110, 0}, {1L << 32, 1},
            {(1L << 32) - 1, 1}, {-1, 0}};
        for (long[] w : why) {
            Check.tray(x, 0, 3, w[0]);
            due("why not " + w[0], x.judge(0, 1), w[1]);
            due("place of " + w[0], x.judge(0, 0), w[1] == 0 ? -1 : 0);
        }
        Check.tray(x, 0, 3, 102, 1L << 32);
        due("perform to the first that can't be", x.perform(0), 1);
        due("PEACE", x.statue(2, 2), -1);
    }

    private static void months() {
        TurnedStatues x = new TurnedStatues();
        due("month without STATUES", x.month(1, 1), -5);
        due("month: times first", x.month(1, 0), -3);
        x = plain();
        due("month(1, 0)", x.month(1, 0), -3);
        due("month(1, 61)", x.month(1, 61), -3);
        due("month(1, -1)", x.month(1, -1), -3);
        due("month(5, 1)", x.month(5, 1), drawn(5, 1));
        due("undo", x.undo(1), 0);
        for (int seed = -40; seed < 40; seed++) {
            TurnedStatues y = plain();
            int before = y.count(8);
            due("month(" + seed + ")", y.month(seed, 60), drawn(seed, 60));
            due("undone as a whole", y.count(8) - before, 1);
            due("NIGHTS of " + seed, y.count(4), nights(seed, 60));
            y.undo(1);
            due("undone", y.count(4), 0);
        }
    }

    /** How many of the deeds drawn can be on PLAIN: all but letters of one to itself. */
    private static int drawn(int seed, int times) {
        return times - own(seed, times)[0];
    }

    private static int nights(int seed, int times) {
        return own(seed, times)[1];
    }

    private static int[] own(int seed, int times) {
        java.math.BigInteger[] x = {java.math.BigInteger.valueOf(seed)};
        int[] counts = new int[2];
        for (int i = 0; i < times; i++) {
            int kind = draw(x) % 4;
            if (kind == 2) {
                counts[0] += draw(x) % 3 == draw(x) % 3 ? 1 : 0;
            } else if (kind == 3) {
                draw(x);
            } else {
                counts[1]++;
            }
        }
        return counts;
    }

    private static int draw(java.math.BigInteger[] x) {
        java.math.BigInteger word = java.math.BigInteger.ONE.shiftLeft(32);
        x[0] = x[0].multiply(java.math.BigInteger.valueOf(1103515245)).add(java.math.BigInteger.valueOf(12345)).mod(word);
        return x[0].shiftRight(16).intValue();
    }

    private static void stillness() {
        TurnedStatues x = plain();
        due("still()", x.still(), 5);
        due("facing(0)", x.facing(0), 0);
        due("facing(1)", x.facing(1), 0);
        due("facing(2)", x.facing(2), 1);
        due("facing(3)", x.facing(3), -2);
        int[][] due = {{0, 5, 0, 4}, {0, 4, 0, 3}, {0, 3, 1, 2}, {0, 2, 1, -1}, {0, 5, 2, 2}, {0, 3, 2, 1}, {0, 0, 0, 2},
            {2, 0, 2, 0}, {2, 1, 2, 1}, {2, 200, 0, 1}, {2, 201, 0, -8}, {2, -1, 0, -8}, {3, 0, 0, -8}, {0, 0, 3, -8},
            {0, 0, -1, -8}};
        for (int[] d : due) {
            due("later(" + d[0] + ", " + d[1] + ", " + d[2] + ")", x.later(d[0], d[1], d[2]), d[3]);
        }
        due("nothing went by", x.count(4), 0);
        x.nights(4);
        due("still() later", x.still(), 1);
        x.nights(1);
        due("still() then", x.still(), 0);
        String two = "stones 2 2;statue 0 0 looks 0;statue 1 1 looks 7;";
        due("a letter at 200", Check.told(two + "peace 200 from 0;").still(), 200);
        due("a letter at 201", Check.told(two + "peace 201 from 0;").still(), -1);
        due("a letter at 202", Check.told(two + "peace 202 from 0;").still(), 0);
        due("a letter at 0", Check.told(two + "peace 0 from 0;").still(), 0);
        due("a turn on 200", Check.told(two + "letter 0 from 1 to 0;letter 0 from 0 to 1;rest: off < 4 and night < 200;").still(), -1);
        due("a turn on 199", Check.told(two + "letter 0 from 0 to 1;rest: off < 4 and night < 197;").still(), 200);
    }

    private static void pairsAndRings() {
        TurnedStatues x = plain();
        due("pair()", x.pair(), -1);
        due("rings()", x.rings(), 0);
        due("ringOf(0)", x.ringOf(0), 0);
        due("ringOf(3)", x.ringOf(3), -2);
        due("ringOf(-1)", x.ringOf(-1), -2);
        due("calm()", x.calm(), 1);
        x.letter(0, 1);
        due("pair() of 0, 1", x.pair(), 1);
        due("rings() of 0, 1", x.rings(), 3);
        due("ringOf(1)", x.ringOf(1), 2);
        due("ringOf(2)", x.ringOf(2), 0);
        due("none calm", x.calm(), 0);
        x.letter(0, 2);
        due("rings() of three", x.rings(), 7);
        due("ringOf(2) of three", x.ringOf(2), 3);
        x.down(1);
        due("rings() without 1", x.rings(), 0);
        due("ringOf(1) DOWN", x.ringOf(1), 0);
        due("calm() without 1", x.calm(), 4);
        x = Check.told("stones 4 4;statue 0 0 looks 0;statue 1 0 looks 6 at 0;statue 3 3 looks 0 at 1;statue 2 3 looks 2 at 2;"
                + "letter 0 from 2 to 3;");
        due("no pair yet", x.pair(), -1);
        due("a ring told ahead of it", x.rings(), 12);
        x.nights(2);
        due("pair() of 2, 3", x.pair(), 23);
        StringBuilder eight = new StringBuilder("stones 8 8;statue 0 0 looks 0;");
        for (int s = 1; s < 8; s++) {
            eight.append("statue ").append(s).append(" 0 looks 0 at ").append(s - 1).append(';');
        }
        x = Check.told(eight + "letter 1 from 0 to 7;");
        due("no ring of eight yet", x.rings(), 0);
        x.nights(1);
        due("rings() of eight", x.rings(), 255);
        due("ringOf(3) of eight", x.ringOf(3), 8);
    }

    private static void waysAcross() {
        TurnedStatues x = Check.told("stones 3 3;");
        due("way(0, 8)", x.way(0, 8), 4);
        due("way(0, 0)", x.way(0, 0), 0);
        due("way(0, 9)", x.way(0, 9), -2);
        due("way(-1, 0)", x.way(-1, 0), -2);
        due("reach(0, 0)", x.reach(0, 0), 1);
        due("reach(0, 1)", x.reach(0, 1), Check.bits(0, 1, 3));
        due("reach(2, 1)", x.reach(2, 1), Check.bits(1, 2, 5));
        due("reach(0, 40)", x.reach(0, 40), 511);
        due("reach(0, 41)", x.reach(0, 41), -3);
        due("reach(0, -1)", x.reach(0, -1), -3);
        due("reach(9, -1)", x.reach(9, -1), -2);
        due("ways(0, 8, 4)", x.ways(0, 8, 4), 6);
        due("ways(0, 8, 3)", x.ways(0, 8, 3), 0);
        due("ways(0, 8, 5)", x.ways(0, 8, 5), 30);
        due("ways(0, 0, 0)", x.ways(0, 0, 0), 1);
        due("ways(0, 1, 0)", x.ways(0, 1, 0), 0);
        due("ways(0, 0, 2)", x.ways(0, 0, 2), 3);
        due("ways(0, 0, 21)", x.ways(0, 0, 21), -3);
        due("ways(0, 0, -1)", x.ways(0, 0, -1), -3);
        due("ways(0, 9, 21)", x.ways(0, 9, 21), -2);
        int[] steps = {0, 1, 2, 5, 8, -1};
        for (int k = 0; k < steps.length; k++) {
            due("step(0, 8, " + k + ")", x.step(0, 8, k), steps[k]);
        }
        due("step(0, 8, -1)", x.step(0, 8, -1), -3);
        due("step(0, 9, -1)", x.step(0, 9, -1), -2);
        x = plain();
        due("way(19, 13)", x.way(19, 13), 3);
        due("ways(19, 13, 3)", x.ways(19, 13, 3), 4);
        due("reach(19, 1)", x.reach(19, 1), Check.bits(18, 20));
        int[] around = {19, 18, 12, 13};
        for (int k = 0; k < around.length; k++) {
            due("step(19, 13, " + k + ")", x.step(19, 13, k), around[k]);
        }
        due("way from a LOOK to itself", x.way(19, 19), 0);
        due("way(7, 1)", x.way(7, 1), -5);
        due("way(1, 21)", x.way(1, 21), -5);
        due("reach(0, 1) taken", x.reach(0, 1), -5);
        due("reach(0, 41) taken", x.reach(0, 41), -3);
        due("ways(1, 0, 1)", x.ways(1, 0, 1), -5);
        due("ways(1, 0, 21)", x.ways(1, 0, 21), -3);
        due("step(25, 1, 1)", x.step(25, 1, 1), -5);
        due("step(25, 1, -1)", x.step(25, 1, -1), -3);
        due("nothing went by", x.count(4), 0);
        x = Check.told("stones 3 2;wall 1 0;wall 1 1;");
        due("no way", x.way(0, 2), -1);
        due("no step", x.step(0, 2, 0), -1);
        due("no ways", x.ways(0, 2, 20), 0);
        due("closed in", x.reach(0, 40), Check.bits(0, 3));
        due("all of an 8 by 8", Check.told("stones 8 8;").reach(0, 14), -1);
        due("last but one", Check.told("stones 8 8;").reach(0, 13), Long.MAX_VALUE);
        due("to 63", Check.told("stones 8 8;").way(0, 63), 14);
        due("C(14, 7)", Check.told("stones 8 8;").ways(0, 63, 14), 3432);
        due("step to 63", Check.told("stones 8 8;").step(0, 63, 13), 55);
        due("narrow", Check.told("stones 2 8;").ways(0, 15, 8), 8);
        // STATUE 0 looks over 1 to 3 till it turns away on NIGHT 38, 39
        String strip = "stones 4 2;statue 0 0 looks 2;statue 0 1 looks 4 at 0;letter 0 from 0 to 1;rest : night < ";
        due("way in 40", Check.told(strip + "38;").way(6, 2), 40);
        due("step in 40", Check.told(strip + "38;").step(6, 2, 40), 2);
        due("step in 39", Check.told(strip + "38;").step(6, 2, 39), 6);
        due("none in 40", Check.told(strip + "39;").way(6, 2), -1);
        due("none may stay UNDER a LOOK", Check.told(strip + "38;").reach(2, 1), Check.bits(6));
    }

    private static void freeing() {
        TurnedStatues x = plain();
        due("freeIn(13)", x.freeIn(13), 1);
        due("freeIn(9)", x.freeIn(9), -1);
        due("freeIn(1)", x.freeIn(1), 0);
        due("freeIn(7)", x.freeIn(7), 0);
        due("freeIn(30)", x.freeIn(30), -2);
        due("freeIn(-1)", x.freeIn(-1), -2);
        due("takeDown(9, 0)", x.takeDown(9, 0), 1);
        due("takeDown(9, 1)", x.takeDown(9, 1), 1);
        due("takeDown(1, 0)", x.takeDown(1, 0), 0);
        due("takeDown(1, 1)", x.takeDown(1, 1), 0);
        due("takeDown(9, 2)", x.takeDown(9, 2), -2);
        due("takeDown(9, -1)", x.takeDown(9, -1), -2);
        due("takeDown(30, 0)", x.takeDown(30, 0), -2);
        due("reconcile(9, 0)", x.reconcile(9, 0), 1);
        due("reconcile(9, 1)", x.reconcile(9, 1), 2);
        due("reconcile(1, 1)", x.reconcile(1, 1), 0);
        due("reconcile(9, 2)", x.reconcile(9, 2), -2);
        due("reconcile(30, 0)", x.reconcile(30, 0), -2);
        due("blocks(9)", x.blocks(9), 0);
        due("blocks(8)", x.blocks(8), Check.bits(9));
        due("blocks(13)", x.blocks(13), Check.bits(19));
        due("blocks(1)", x.blocks(1), 0);
        due("blocks(30)", x.blocks(30), -2);
        due("blocks(-1)", x.blocks(-1), -2);
        due("frees(9, 0, 0)", x.frees(9, 0, 0), 0);
        due("frees(9, 0, 1)", x.frees(9, 0, 1), -1);
        due("frees(9, 1, 0)", x.frees(9, 1, 0), 1);
        due("frees(9, 1, 1)", x.frees(9, 1, 1), 12);
        due("frees(1, 60, 0)", x.frees(1, 60, 0), 4);
        due("frees(9, 61, 0)", x.frees(9, 61, 0), -3);
        due("frees(9, -1, 0)", x.frees(9, -1, 0), -3);
        due("frees(9, 61, 2)", x.frees(9, 61, 2), -2);
        due("frees(30, 61, 0)", x.frees(30, 61, 0), -2);
        due("nothing changed", x.count(8) + x.statue(1, 2), 0);
        // 1 and 2 look at 0 along one row from both sides; 3 has 0 as FOE as well and looks across
        x = Check.told("stones 7 3;statue 3 1 looks 0;statue 0 1 looks 2 at 0;statue 1 0 looks 4 at 0;statue 2 2 looks 0 at 0;");
        due("watchers(8)", x.watchers(8), 6);
        due("one for all", x.takeDown(8, 1), 1);
        due("reconcile two", x.reconcile(8, 1), 6);
        due("reconcile two: how many", x.reconcile(8, 0), 2);
        due("no one place", x.blocks(8), 0);
        due("watchers(9)", x.watchers(9), 10);
        due("one place", x.blocks(2), Check.bits(9));
        due("taken is free", x.takeDown(10, 0), 0);
        // both look along one row at one another
        x = Check.told("stones 7 2;statue 0 0 looks 2;statue 6 0 looks 6 at 0;letter 0 from 0 to 1;");
        due("two watch", x.watchers(3), 3);
        due("either is enough", x.takeDown(3, 1), 1);
        due("both reconcile", x.reconcile(3, 1), 3);
        // 0 hates 1, 2 hates 3, both look over STONE 8: 0 or 1 and 2 or 3 have to go
        x = Check.told("stones 7 7;statue 0 1 looks 2;statue 6 6 looks 0;statue 1 0 looks 4;statue 5 6 looks 0;"
                + "letter 0 from 0 to 1;letter 0 from 2 to 3;");
        due("two are needed", x.takeDown(8, 0), 2);
        due("the least set", x.takeDown(8, 1), 5);
        due("the two PEACES", x.reconcile(8, 1), 5);
        String long200 = "stones 4 2;statue 0 0 looks 2;statue 0 1 looks 2 at 0;letter 0 from 0 to 1;rest : night < ";
        due("free at 200", Check.told(long200 + "199;").freeIn(2), 200);
        due("not by 200", Check.told(long200 + "200;").freeIn(2), -1);
    }

    private static void whoWrote() {
        TurnedStatues x = plain();
        due("seen none", x.seen(0, 0), -6);
        due("seen(4, 0)", x.seen(4, 0), -2);
        due("writer(0, 0, 2)", x.writer(0, 0, 2), -2);
        due("writer(-1, 0, 0)", x.writer(-1, 0, 0), -2);
        due("writer none", x.writer(0, 0, 0), -6);
        Check.tray(x, 0, 0, -1, -1, -1);
        due("nothing seen", x.seen(0, 0), 5);
        due("nothing seen: who", x.writer(0, 0, 0), -9);
        due("nothing seen, 60", x.seen(0, 60), 5);
        due("seen(0, 61)", x.seen(0, 61), -3);
        due("seen(0, -1)", x.seen(0, -1), -3);
        due("writer(0, 61, 0)", x.writer(0, 61, 0), -3);
        int[][] due = {{-1, 5, -1, 1, 1, 2}, {2, 6, 1, 2, -9, -9}, {3, 6, 1, 1, 0, 2}, {2, 6, 0, 1, 2, 0},
            {7, 7, 7, 0, -9, -9}, {-1, 6, 1, 3, -9, -9}};
        for (int[] d : due) {
            Check.tray(x, 1, 1, d[0], d[1], d[2]);
            due("seen " + d[0] + d[1] + d[2], x.seen(1, 1), d[3]);
            due("who " + d[0] + d[1] + d[2], x.writer(1, 1, 0), d[4]);
            due("to whom " + d[0] + d[1] + d[2], x.writer(1, 1, 1), d[5]);
        }
        Check.tray(x, 2, 2, -1, -1);
        due("too few", x.seen(2, 61), -4);
        Check.tray(x, 2, 2, -1, -1, -1, 9);
        due("too many", x.writer(2, 0, 0), -4);
        Check.tray(x, 2, 2, -1, -1, 8);
        due("8", x.seen(2, 0), -3);
        Check.tray(x, 2, 3, -1, 1L << 32, -1);
        due("above an int", x.seen(2, 0), -3);
        Check.tray(x, 2, 2, -2, -1, -1);
        due("-2", x.writer(2, 0, 0), -3);
        TurnedStatues one = Check.told("stones 2 2;statue 0 0 looks 3;");
        Check.tray(one, 0, 0, 3);
        due("none alone", one.seen(0, 9), 1);
        due("none: who", one.writer(0, 9, 0), -1);
        due("none: to whom", one.writer(0, 9, 1), -1);
        int[][] turners = {{0, 0}, {1, 4}, {3, 4}, {4, 5}, {60, 5}, {61, -3}, {-1, -3}};
        for (int[] t : turners) {
            due("turners(" + t[0] + ")", x.turners(t[0]), t[1]);
        }
        due("nothing went by", x.count(4), 0);
    }

    private static void trays() {
        TurnedStatues x = plain();
        due("numbers(4, 0, 1)", x.numbers(4, 0, 1), -2);
        due("numbers(-1, 0, 1)", x.numbers(-1, 0, 1), -2);
        due("numbers(0, 4, 1)", x.numbers(0, 4, 1), -2);
        due("numbers(0, -1, 41)", x.numbers(0, -1, 41), -2);
        due("numbers(0, 0, 41)", x.numbers(0, 0, 41), -3);
        due("numbers(0, 0, -1)", x.numbers(0, 0, -1), -3);
        due("write none", x.write(0, 0, 1), -6);
        due("write(4, 0, 1)", x.write(4, 0, 1), -2);
        due("copy none", x.copy(0), -6);
        due("copy(4)", x.copy(4), -2);
        long big = 0x123456789abcdef0L;
        long[][] cut = {{0, 200, -56}, {0, -129, 127}, {0, big, -16}, {1, 40000, -25536}, {1, big, -8464}, {2, 1L << 31, -1L << 31},
            {2, big, 0xffffffff9abcdef0L}, {3, big, big}, {3, -1, -1}, {2, -1, -1}, {1, -1, -1}, {0, -1, -1}};
        for (long[] c : cut) {
            due("numbers", x.numbers(0, (int) c[0], 1), 0);
            due("write " + c[1] + " of sort " + c[0], x.write(0, 0, c[1]), c[2]);
        }
        due("numbers(3, 3, 40)", x.numbers(3, 3, 40), 0);
        due("write(3, 39, 7)", x.write(3, 39, 7), 7);
        due("write(3, 40, 7)", x.write(3, 40, 7), -7);
        due("write(3, -1, 7)", x.write(3, -1, 7), -7);
        due("copy(3)", x.copy(3), 3);
        Check.tray(x, 0, 3, 203);
        due("numbers(0, 3, 41)", x.numbers(0, 3, 41), -3);
        due("the TRAY stays", x.judge(0, 1), 1);
        due("write(0, 1, 7)", x.write(0, 1, 7), -7);
        due("numbers anew", x.numbers(0, 3, 2), 0);
        due("all 0: both one", x.judge(0, 1), 1);
        due("numbers(0, 0, 3)", x.numbers(0, 0, 3), 0);
        x.down(1);
        due("copy(0)", x.copy(0), 3);
        // a letter from 0 to 2 or from 2 to 0 changes no DIRECTION at once, nor does none
        due("as all look", x.seen(0, 0), 3);
        due("one more is written", x.write(0, 1, 5), 5);
        due("not as all look", x.seen(0, 0), 0);
        due("numbers(0, 0, 2)", x.numbers(0, 0, 2), 0);
        due("copy of two", x.copy(0), 2);
        due("numbers(0, 0, 0)", x.numbers(0, 0, 0), 0);
        due("copy of none", x.copy(0), 0);
    }

    private static void images() {
        TurnedStatues x = plain();
        due("image(2)", x.image(2), -2);
        due("image(-1)", x.image(-1), -2);
        due("restore(2)", x.restore(2), -2);
        due("restore(-1)", x.restore(-1), -2);
        due("restore(1)", x.restore(1), -5);
        x.nights(4);
        due("image(0)", x.image(0), 0);
        due("an image undoes nothing", x.count(8), 1);
        due("restore(1) still", x.restore(1), -5);
        x.nights(9);
        x.down(0);
        Check.tray(x, 0, 0, 4);
        Check.tell(x, "stones 8 8;statue 0 0 looks 0;wall 5 5;snow 0 for 1;rest : 1 = 1;");
        due("image(1)", x.image(1), 0);
        x.nights(1);
        Check.feed(x, "wall");
        due("restore(0)", x.restore(0), 0);
        int[] counts = {6, 5, 3, 3, 4, 0, 1, 0, 0, 20, 7, 2};
        for (int what = 0; what < counts.length; what++) {
            due("restored count(" + what + ")", x.count(what), counts[what]);
        }
        due("0 stands again", x.statue(0, 0), 7);
        due("0 looks", x.statue(0, 1), 3);
        due("0 hates", x.statue(0, 2), 2);
        due("no law", x.statue(0, 5), 1);
        due("the TRAY stays", x.write(0, 0, 9), 9);
        due("fountain", x.stone(0), -11);
        due("undo(1)", x.undo(1), -3);
        x.nights(5);
        due("restore(1)", x.restore(1), 0);
        due("wide", x.count(0), 8);
        due("snow", x.count(5), 1);
        due("wall", x.stone(45), -10);
        due("nothing to undo", x.count(8), 0);
        due("restore(0) again", x.restore(0), 0);
        due("night 4", x.count(4), 4);
        x.image(0);
        due("new image of it", x.restore(0), 0);
    }

    private static void counts() {
        TurnedStatues x = Check.told("stones 4 3;statue 0 0 looks 2;statue 3 0 looks 6 at 0;wall 1 1;wall 2 1;fountain 3 2;"
                + "snow 2 for 3;peace 4 from 1;letter 2 from 0 to 1;peace 0 from 0;rest : 1 = 2;");
        x.down(0);
        x.nights(2);
        Check.feed(x, "something more than twenty");
        int[] counts = {4, 3, 2, 1, 2, 1, 3, 1, 2, 40, 11, 3};
        for (int what = 0; what < counts.length; what++) {
            due("count(" + what + ")", x.count(what), counts[what]);
        }
        due("count(12)", x.count(12), -1);
        due("count(-1)", x.count(-1), -1);
        int[] snow = {1, 1, 0};
        for (int i = 0; i < snow.length; i++) {
            x.nights(1);
            due("snow on " + (3 + i), x.count(5), snow[i]);
        }
    }

    public static void main(String[] args) {
        aNewObject();
        feeding();
        squares();
        statuesOf();
        towardsFoes();
        looksAlong();
        nightsGoBy();
        snowAndRest();
        deeds();
        undoing();
        traysOfDeeds();
        months();
        stillness();
        pairsAndRings();
        waysAcross();
        freeing();
        whoWrote();
        trays();
        images();
        counts();
        CHECK.end();
    }
}
