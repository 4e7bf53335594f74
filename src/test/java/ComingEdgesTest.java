import java.math.BigInteger;

/** Promises 20 to 30 and the terms they use, at their edges: all still, who faces whom, rings, ways. */
public final class ComingEdgesTest {
    private static final Check CHECK = new Check();
    /** STATUE 1 hates 0, who is north of it, and looks one eighth away. */
    private static final String TWO = "stones 2 3;statue 0 0 looks 4;statue 0 2 looks 1 at 0;";
    private static final int[] WILD = {-1, Integer.MAX_VALUE, Integer.MIN_VALUE};

    private static void due(String call, long got, long want) {
        CHECK.due(call, got, want);
    }

    /** Promise 20: a turn, a letter, a peace on the last NIGHT that is looked at, and beyond; now and later on. */
    private static void still() {
        int[][] turnOn = {{0, 1}, {1, 2}, {2, 3}, {100, 101}, {198, 199}, {199, 200}, {200, -1}, {201, 0}, {202, 0}, {999, 0}};
        for (int[] t : turnOn) {
            due("a turn on " + t[0], Check.told(TWO + "rest : night < " + t[0] + ";").still(), t[1]);
        }
        int[][] comesOn = {{0, 0}, {1, 1}, {2, 2}, {199, 199}, {200, 200}, {201, -1}, {202, 0}, {999, 0}};
        for (int[] c : comesOn) {
            String rest = "rest : 1 = 1;";
            due("peace on " + c[0], Check.told(TWO + rest + "peace " + c[0] + " from 0;").still(), c[1]);
            due("letter on " + c[0], Check.told(TWO + rest + "letter " + c[0] + " from 1 to 0;").still(), c[1]);
            // the latest counts
            due("letters on 0 and " + c[0], Check.told(TWO + rest + "letter " + c[0] + " from 1 to 0;peace 0 from 0;").still(), c[1]);
            TurnedStatues x = Check.told(TWO + rest + "letter " + Math.min(999, c[0] + 50) + " from 1 to 0;");
            CHECK.pass(x, 50);
            due("50 NIGHTS later, letter " + c[0], x.still(), c[1]);
            x.down(0);
            x.down(1);
            due("it takes effect for those who are DOWN", x.still(), c[1]);
        }
        // each of ten counts
        for (int at = 0; at < 10; at++) {
            String ten = "peace 3 from 0;".repeat(at) + "letter 150 from 1 to 0;" + "peace 0 from 0;".repeat(9 - at);
            due("the latest is told as number " + at, Check.told(TWO + ten + "rest : 1 = 1;").still(), 150);
        }
        due("snow to 198", Check.told(TWO + "snow 0 for 99;snow 99 for 99;snow 198 for 1;").still(), 200);
        due("snow to 199", Check.told(TWO + "snow 0 for 99;snow 99 for 99;snow 198 for 2;").still(), -1);
        due("snow to 200", Check.told(TWO + "snow 0 for 99;snow 99 for 99;snow 198 for 3;").still(), 0);
        TurnedStatues x = Check.told(TWO);
        due("one turn", x.still(), 1);
        due("no NIGHT went by", x.count(4), 0);
        x.nights(1);
        due("all is still", x.still(), 0);
        x = Check.told(TWO + "letter 1 from 0 to 1;");
        due("a letter that turns no one", x.still(), 1);
        x = Check.told(TWO + "letter 3 from 0 to 1;");
        due("a letter later on", x.still(), 3);
        x = Check.told("stones 2 3;statue 0 0 looks 0;statue 0 2 looks 1 at 0;letter 3 from 0 to 1;");
        due("a letter that has one turn four times", x.still(), 7);
    }

    /** Promise 21. */
    private static void later() {
        String late = TWO + "letter 200 from 0 to 1;peace 199 from 1;letter 200 from 1 to 0;letter 201 from 0 to 1;rest : night < 199;";
        TurnedStatues x = Check.told("stones 2 3;statue 0 0 looks 4;statue 0 2 looks 1 at 0;rest : night < 199;");
        int[][] due = {{1, 0, 0, 1}, {1, 199, 0, 1}, {1, 200, 0, 0}, {1, 199, 2, -1}, {1, 200, 2, 0}, {1, 0, 1, 0}, {1, 200, 1, 0},
            {0, 0, 0, 4}, {0, 200, 0, 4}, {0, 200, 1, -1}, {0, 200, 2, -1}, {1, 201, 0, -8}, {1, -1, 0, -8}, {1, 0, 3, -8},
            {1, 0, -1, -8}, {2, 0, 0, -8}, {-1, 0, 0, -8}, {1, Integer.MAX_VALUE, 0, -8}, {1, Integer.MIN_VALUE, 0, -8},
            {0, 0, Integer.MAX_VALUE, -8}, {0, 0, Integer.MIN_VALUE, -8}, {Integer.MAX_VALUE, 0, 0, -8}, {Integer.MIN_VALUE, 0, 0, -8}};
        for (int[] d : due) {
            due("later(" + d[0] + ", " + d[1] + ", " + d[2] + ")", x.later(d[0], d[1], d[2]), d[3]);
        }
        due("nothing went by", x.count(4) + x.count(8), 0);
        x = Check.told(late);
        int[][] foes = {{0, 0, -1}, {0, 199, -1}, {0, 200, 1}, {1, 198, 0}, {1, 199, -1}, {1, 200, 0}};
        for (int[] f : foes) {
            due("FOE of " + f[0] + " in " + f[1], x.later(f[0], f[1], 1), f[2]);
        }
        x = Check.told(TWO + "letter 250 from 0 to 1;");
        CHECK.pass(x, 50);
        due("FOE in 199 from 50", x.later(0, 199, 1), -1);
        due("FOE in 200 from 50", x.later(0, 200, 1), 1);
        x.down(1);
        due("DIRECTION of one that is DOWN", x.later(1, 200, 0), 0);
        due("FOE of one that is DOWN", x.later(1, 200, 1), 0);
        due("none SEES", x.later(1, 200, 2), -1);
    }

    /** Promise 22. */
    private static void facing() {
        int[][] turnOn = {{0, 1}, {1, 2}, {198, 199}, {199, 200}, {200, -1}, {201, -1}};
        for (int[] t : turnOn) {
            due("facing by " + t[0], Check.told(TWO + "rest : night < " + t[0] + ";").facing(1), t[1]);
        }
        // by a peace OFF is 0 as well
        int[][] peaceOn = {{0, 0}, {1, 1}, {199, 199}, {200, 200}, {201, -1}};
        for (int[] p : peaceOn) {
            due("peace by " + p[0], Check.told(TWO + "rest : 1 = 1;peace " + p[0] + " from 1;").facing(1), p[1]);
        }
        // OFF 0 now, though it will not stay so; no FOE; DOWN
        TurnedStatues x = Check.told("stones 2 3;statue 0 0 looks 0;statue 0 2 looks 0 at 0;letter 1 from 0 to 1;");
        due("faces now", x.facing(1), 0);
        due("has no FOE now", x.facing(0), 0);
        x.nights(1);
        due("four eighths off", x.facing(0), 4);
        x.down(0);
        due("DOWN", x.facing(0), 0);
        due("its FOE is DOWN", x.facing(1), 0);
        due("facing(2)", x.facing(2), -2);
        for (int s : WILD) {
            due("facing(" + s + ")", x.facing(s), -2);
        }
    }

    /** Promise 23: the first by the lesser number, then by the other one. */
    private static void pairs() {
        String row = "stones 8 2;statue 0 0 looks 2;statue 7 0 looks 6 at 0;";
        TurnedStatues x = Check.told(row + "statue 3 0 looks 6 at 1;letter 0 from 0 to 1;");
        due("0 sees 2", x.statue(0, 4), 2);
        due("1 sees 2", x.statue(1, 4), 2);
        due("2 sees 0", x.statue(2, 4), 0);
        due("who SEE one another, FOES or not", x.pair(), 2);
        x.down(2);
        due("0 and 1", x.pair(), 1);
        x.peace(0);
        due("one without a FOE sees none", x.pair(), -1);
        due("a wall between", Check.told(row + "letter 0 from 0 to 1;wall 3 0;").pair(), -1);
        due("a fountain between", Check.told(row + "letter 0 from 0 to 1;fountain 6 0;").pair(), -1);
        due("one who looks elsewhere", Check.told("stones 8 2;statue 0 0 looks 2;statue 7 0 looks 5 at 0;letter 0 from 0 to 1;").pair(), -1);
        // in rows 0 to 3: 0 and 7, 1 and 2, 3 and 6, 4 and 5; who stands left looks right
        int[][] at = {{0, 0}, {0, 1}, {7, 1}, {0, 2}, {0, 3}, {7, 3}, {7, 2}, {7, 0}};
        int[] other = {7, 2, 1, 6, 5, 4, 3, 0};
        StringBuilder b = new StringBuilder("stones 8 8;");
        for (int s = 0; s < 8; s++) {
            b.append("statue ").append(at[s][0]).append(' ').append(at[s][1]).append(" looks ").append(at[s][0] == 0 ? 2 : 6).append(';');
        }
        for (int s = 0; s < 8; s++) {
            b.append("letter 0 from ").append(s).append(" to ").append(other[s]).append(';');
        }
        x = Check.told(b.toString());
        due("first 0 and 7", x.pair(), 7);
        x.down(0);
        due("then 1 and 2", x.pair(), 12);
        x.down(2);
        due("then 3 and 6", x.pair(), 36);
        x.down(3);
        due("then 4 and 5", x.pair(), 45);
        x.down(4);
        due("then none", x.pair(), -1);
        StringBuilder last = new StringBuilder("stones 8 8;");
        for (int s = 0; s < 6; s++) {
            last.append("statue ").append(s).append(" 0 looks 0;");
        }
        due("6 and 7", Check.told(last + "statue 0 7 looks 2;statue 7 7 looks 6 at 6;letter 0 from 6 to 7;").pair(), 67);
        due("beside one another", Check.told("stones 2 2;statue 0 0 looks 3;statue 1 1 looks 7 at 0;letter 0 from 0 to 1;").pair(), 1);
    }

    /** Promise 24, 25: rings of two to eight; those who hate one of a ring are not in it. */
    private static void rings() {
        for (int many = 2; many <= 8; many++) {
            StringBuilder b = new StringBuilder("stones 8 8;statue 0 0 looks 0;");
            for (int s = 1; s < 8; s++) {
                b.append("statue ").append(s).append(" 0 looks 0 at ").append(s < many ? s - 1 : many - 1).append(';');
            }
            TurnedStatues x = Check.told(b.toString());
            due("no ring yet", x.rings(), 0);
            due("chain of " + many, x.ringOf(many - 1), 0);
            x.letter(0, many - 1);
            due("ring of " + many, x.rings(), (1 << many) - 1);
            for (int s = 0; s < 8; s++) {
                due("ringOf(" + s + ") of " + many, x.ringOf(s), s < many ? many : 0);
            }
            x.down(many - 1);
            due("one of it is DOWN", x.rings(), 0);
            due("ringOf one that is DOWN", x.ringOf(many - 1), 0);
            due("ringOf the one ahead", x.ringOf(0), 0);
            x.up(many - 1, 63);
            due("UP again", x.rings(), (1 << many) - 1);
            x.peace(0);
            due("PEACE", x.rings(), 0);
        }
        TurnedStatues x = Check.told("stones 8 8;statue 0 0 looks 0;statue 1 0 looks 0 at 0;statue 2 0 looks 0;statue 3 0 looks 0 at 2;"
                + "statue 4 0 looks 0;statue 5 0 looks 0 at 4;statue 6 0 looks 0;statue 7 0 looks 0 at 6;letter 0 from 0 to 1;"
                + "letter 0 from 2 to 3;letter 0 from 4 to 5;letter 0 from 6 to 7;");
        due("four rings", x.rings(), 255);
        x.letter(6, 5);
        due("three rings", x.rings(), 63);
        due("ringOf(7)", x.ringOf(7), 0);
        due("ringOf(5)", x.ringOf(5), 2);
        due("ringOf(8)", x.ringOf(8), -2);
        for (int s : WILD) {
            due("ringOf(" + s + ")", x.ringOf(s), -2);
        }
    }

    /** Promise 26. */
    private static void calm() {
        StringBuilder b = new StringBuilder("stones 8 8;");
        for (int s = 0; s < 8; s++) {
            b.append("statue ").append(s).append(" 0 looks 0;");
        }
        TurnedStatues x = Check.told(b.toString());
        due("all calm", x.calm(), 255);
        x.letter(7, 0);
        due("but 7", x.calm(), 127);
        x.letter(0, 7);
        due("but 0 and 7", x.calm(), 126);
        x.down(0);
        due("7, whose FOE is DOWN; not 0, who is", x.calm(), 254);
        x.up(0, 63);
        due("0 stands", x.calm(), 126);
        for (int s = 0; s < 8; s++) {
            x.down(s);
        }
        due("none stands", x.calm(), 0);
    }

    /** Promise 27 to 30 in squares of each size without a STATUE: one goes in x or y, and never round the edge. */
    private static void openSquares() {
        for (int wide = 2; wide <= 8; wide++) {
            for (int high = 2; high <= 8; high++) {
                TurnedStatues x = Check.told("stones " + wide + " " + high + ";");
                int last = wide * high - 1;
                String size = wide + " by " + high;
                due(size + " across", x.way(0, last), wide + high - 2);
                due(size + " back", x.way(last, 0), wide + high - 2);
                due(size + " from one row to the next", x.way(wide - 1, wide), wide);
                due(size + " there", x.way(last, last), 0);
                due(size + " right", x.way(0, 1), 1);
                due(size + " down", x.way(0, wide), 1);
                due(size + " slanting", x.way(0, wide + 1), 2);
                due(size + " reach of a corner", x.reach(0, 1), Check.bits(0, 1, wide));
                due(size + " reach of the other one", x.reach(last, 1), Check.bits(last, last - 1, last - wide));
                due(size + " reach of a row's end", x.reach(wide - 1, 1), Check.bits(wide - 1, wide - 2, 2 * wide - 1));
                due(size + " reach of a row's begin", x.reach(wide * (high - 1), 1),
                        Check.bits(wide * (high - 1), wide * (high - 1) + 1, wide * (high - 2)));
                due(size + " reach of none", x.reach(last, 0), Check.bits(last));
                due(size + " reach of all", x.reach(0, wide + high - 2), last == 63 ? -1L : (1L << last + 1) - 1);
                due(size + " reach of all but one", x.reach(0, wide + high - 3), (1L << last) - 1);
                due(size + " reach in 40", x.reach(last, 40), last == 63 ? -1L : (1L << last + 1) - 1);
                due(size + " ways of none", x.ways(last, last, 0), 1);
                due(size + " ways of none elsewhere", x.ways(last, 0, 0), 0);
                due(size + " ways to stay", x.ways(last, last, 1), 1);
                due(size + " ways of the fewest", x.ways(0, last, wide + high - 2), choose(wide + high - 2, wide - 1));
                due(size + " ways of fewer", x.ways(0, last, wide + high - 3), 0);
                // the first by STONES: right along the first row, then down
                for (int k = 0; k <= wide + high - 2; k++) {
                    due(size + " step " + k, x.step(0, last, k), k < wide ? k : wide - 1 + wide * (k - wide + 1));
                }
                due(size + " step beyond", x.step(0, last, wide + high - 1), -1);
                // back: up along the last column, then left along the first row
                for (int k = 0; k <= wide + high - 2; k++) {
                    due(size + " step back " + k, x.step(last, 0, k), k < high ? last - wide * k : wide - 1 - (k - high + 1));
                }
                for (int k : new int[] {last + 1, -1, 64, Integer.MAX_VALUE, Integer.MIN_VALUE}) {
                    due(size + " way from " + k, x.way(k, 0), -2);
                    due(size + " way to " + k, x.way(0, k), -2);
                    due(size + " reach from " + k, x.reach(k, 0), -2);
                    due(size + " ways from " + k, x.ways(k, 0, 0), -2);
                    due(size + " ways to " + k, x.ways(0, k, 0), -2);
                    due(size + " step from " + k, x.step(k, 0, 0), -2);
                    due(size + " step to " + k, x.step(0, k, 0), -2);
                }
            }
        }
    }

    private static long choose(int n, int k) {
        long all = 1;
        for (int i = 1; i <= k; i++) {
            all = all * (n - k + i) / i;
        }
        return all;
    }

    /** Promise 28, 29, 30: how many NIGHTS, how many goings. */
    private static void bounds() {
        TurnedStatues x = Check.told("stones 2 2;");
        int[] none = {-1, 41, Integer.MAX_VALUE, Integer.MIN_VALUE};
        for (int n : none) {
            due("reach(0, " + n + ")", x.reach(0, n), -3);
            due("reach(4, " + n + ")", x.reach(4, n), -2);
            due("ways(0, 0, " + n + ")", x.ways(0, 0, n), -3);
            due("ways(0, 4, " + n + ")", x.ways(0, 4, n), -2);
            due("ways(-1, 0, " + n + ")", x.ways(-1, 0, n), -2);
        }
        due("ways(0, 0, 21)", x.ways(0, 0, 21), -3);
        due("reach(0, 21)", x.reach(0, 21), 15);
        // of n NIGHTS on 2 by 2, where each has two others beside: 3^n in all, all but alike on each STONE
        long all = 1;
        int sign = 1;
        for (int n = 0; n <= 20; n++) {
            due("ways to itself in " + n, x.ways(0, 0, n), (all + 2 + sign) / 4);
            due("ways beside in " + n, x.ways(0, 1, n), (all - sign) / 4);
            due("ways down in " + n, x.ways(0, 2, n), (all - sign) / 4);
            due("ways across in " + n, x.ways(0, 3, n), (all - 2 + sign) / 4);
            all *= 3;
            sign = -sign;
        }
        due("ways(0, 0, 20)", x.ways(0, 0, 20), 871696101L);
        due("step(0, 0, 0)", x.step(0, 0, 0), 0);
        due("step(0, 0, 1)", x.step(0, 0, 1), -1);
        due("step(3, 3, most)", x.step(3, 3, Integer.MAX_VALUE), -1);
        due("step(3, 3, -1)", x.step(3, 3, -1), -3);
        due("step(3, 3, least)", x.step(3, 3, Integer.MIN_VALUE), -3);
        due("step(4, 3, -1)", x.step(4, 3, -1), -2);
        due("step(3, -1, -1)", x.step(3, -1, -1), -2);
        x = Check.told("stones 8 8;");
        int[][] ends = {{0, 63}, {27, 27}, {27, 36}, {0, 0}, {63, 63}, {7, 56}, {56, 7}, {63, 62}, {28, 0}};
        for (int[] e : ends) {
            for (int n : new int[] {19, 20}) {
                due("ways(" + e[0] + ", " + e[1] + ", " + n + ")", x.ways(e[0], e[1], n), waysOf(e[0], e[1], n).longValueExact());
            }
        }
    }

    /** On 8 by 8: so many goings in x and so many in y, mixed with each other and with stays. */
    private static BigInteger waysOf(int from, int to, int n) {
        BigInteger sum = BigInteger.ZERO;
        for (int inX = 0; inX <= n; inX++) {
            for (int inY = 0; inX + inY <= n; inY++) {
                BigInteger mixed = BigInteger.valueOf(choose(n, inX)).multiply(BigInteger.valueOf(choose(n - inX, inY)));
                BigInteger x = BigInteger.valueOf(along(from % 8, to % 8, inX));
                BigInteger y = BigInteger.valueOf(along(from / 8, to / 8, inY));
                sum = sum.add(mixed.multiply(x).multiply(y));
            }
        }
        return sum;
    }

    /** Ways along a row of eight by goings alone. */
    private static long along(int from, int to, int n) {
        long[] at = new long[10];
        at[from + 1] = 1;
        for (int i = 0; i < n; i++) {
            long[] then = new long[10];
            for (int k = 1; k <= 8; k++) {
                then[k] = at[k - 1] + at[k + 1];
            }
            at = then;
        }
        return at[to + 1];
    }

    /** STONES that are taken, those UNDER a LOOK that NIGHT, those left by one that is DOWN. */
    private static void taken() {
        TurnedStatues x = Check.told("stones 3 3;statue 0 0 looks 0;wall 1 1;fountain 2 2;");
        for (int k : new int[] {0, 4, 8}) {
            due("way from a taken one " + k, x.way(k, 1), -5);
            due("way to a taken one " + k, x.way(1, k), -5);
            due("way from it to itself " + k, x.way(k, k), -5);
            due("way from it to none " + k, x.way(k, 9), -2);
            due("way to it from none " + k, x.way(9, k), -2);
            due("reach from it " + k, x.reach(k, 0), -5);
            due("reach from it, 41 " + k, x.reach(k, 41), -3);
            due("ways from it " + k, x.ways(k, 1, 0), -5);
            due("ways to it " + k, x.ways(1, k, 20), -5);
            due("ways to it, 21 " + k, x.ways(1, k, 21), -3);
            due("ways to itself " + k, x.ways(k, k, 0), -5);
            due("step from it " + k, x.step(k, 1, 0), -5);
            due("step to it " + k, x.step(1, k, 40), -5);
            due("step to itself " + k, x.step(k, k, 0), -5);
            due("step to it, -1 " + k, x.step(1, k, -1), -3);
        }
        due("round the wall", x.way(3, 5), -1);
        due("no ways", x.ways(3, 5, 20), 0);
        due("no step", x.step(3, 5, 0), -1);
        due("none to be reached beyond", x.reach(3, 40), Check.bits(3, 6, 7));
        due("down(0)", x.down(0), 0);
        due("way over where it was", x.way(3, 5), 4);
        due("way from where it was", x.way(0, 0), 0);
        // both STONES without a STATUE are UNDER a LOOK: one can't stay, nor go
        x = Check.told("stones 2 2;statue 0 0 looks 4;statue 1 0 looks 4 at 0;letter 0 from 0 to 1;rest : 1 = 1;");
        due("reach of a LOOK at first", x.reach(2, 0), Check.bits(2));
        due("reach of a LOOK", x.reach(2, 1), 0);
        due("reach of a LOOK in 40", x.reach(2, 40), 0);
        due("way to where one is", x.way(2, 2), 0);
        due("way from LOOK to LOOK", x.way(2, 3), -1);
        due("ways to where one is", x.ways(2, 2, 0), 1);
        due("ways to stay UNDER a LOOK", x.ways(2, 2, 1), 0);
        due("step where one is", x.step(2, 2, 0), 2);
        // 0 alone looks, over 2; one goes out of its LOOK, and not back
        x = Check.told("stones 2 2;statue 0 0 looks 4;statue 1 0 looks 4;letter 0 from 0 to 1;rest : 1 = 1;");
        due("out of a LOOK", x.way(2, 3), 1);
        due("not into a LOOK", x.way(3, 2), -1);
        due("out of a LOOK, and stay", x.reach(2, 40), Check.bits(3));
        due("one way", x.ways(2, 3, 20), 1);
        due("nothing went by", x.count(4), 0);
    }

    /** STATUE 0 looks over 1, 2, 3 up to NIGHT last, over 5 on the next one, over none then. */
    private static TurnedStatues strip(int last) {
        return Check.told("stones 4 2;statue 0 0 looks 2;statue 0 1 looks 4 at 0;letter 0 from 0 to 1;rest : night < " + last + ";");
    }

    /** Promise 27 to 30: one waits for a LOOK to turn away, 40 NIGHTS at most. */
    private static void waiting() {
        for (int last = 0; last <= 41; last++) {
            int fewest = last + 2 <= 40 ? last + 2 : -1;
            TurnedStatues x = strip(last);
            String what = "turned on NIGHT " + last + ": ";
            due(what + "way", x.way(6, 2), fewest);
            due(what + "step 0", x.step(6, 2, 0), fewest == -1 ? -1 : 6);
            // the first by STONES goes to 5 and comes back as 5 comes UNDER the LOOK
            for (int k = 1; k <= 41; k++) {
                int due = fewest == -1 || k > fewest ? -1 : k == fewest ? 2 : k <= last ? 5 : 6;
                due(what + "step " + k, x.step(6, 2, k), due);
            }
            // behind n NIGHTS: the last going was in NIGHT n - 1
            for (int n = 1; n <= 40; n++) {
                long due = n <= last + 1 ? Check.bits(5, 6, 7) : n == last + 2 ? Check.bits(1, 2, 3, 6, 7) : Check.bits(1, 2, 3, 5, 6, 7);
                due(what + "reach(6, " + n + ")", x.reach(6, n), due);
            }
            if (last + 2 <= 20) {
                due(what + "no way but one NIGHT sooner", x.ways(6, 2, last + 1), 0);
                due(what + "ways", x.ways(6, 2, last + 2), stays(last));
            }
        }
        due("way to where one is UNDER a LOOK", strip(40).way(2, 2), 0);
        due("step there", strip(40).step(2, 2, 0), 2);
        due("ways out of a LOOK in 1", strip(40).ways(2, 6, 1), 1);
        due("ways out of a LOOK, and stay", strip(40).ways(2, 6, 2), 1);
    }

    /** Ways of last + 1 goings among 5, 6, 7 from 6 to 6, the last one not to 5: then one goes up to 2. */
    private static long stays(int last) {
        long[] at = {0, 1, 0};
        for (int i = 0; i <= last; i++) {
            at = new long[] {at[0] + at[1], at[0] + at[1] + at[2], at[1] + at[2]};
        }
        return at[1];
    }

    public static void main(String[] args) {
        still();
        later();
        facing();
        pairs();
        rings();
        calm();
        openSquares();
        bounds();
        taken();
        waiting();
        CHECK.end();
    }
}
