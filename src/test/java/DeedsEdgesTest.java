/** Promises 11 to 19 and the terms they use, at their edges. */
public final class DeedsEdgesTest {
    private static final Check CHECK = new Check();
    /** Eight in the first row: 1 to 7 hate 0, who hates 7; each looks away from its FOE (OFF 4). Wall on 63, fountain on 62. */
    private static final String ROW = "stones 8 8;statue 0 0 looks 6;statue 1 0 looks 2 at 0;statue 2 0 looks 2 at 0;"
            + "statue 3 0 looks 2 at 0;statue 4 0 looks 2 at 0;statue 5 0 looks 2 at 0;statue 6 0 looks 2 at 0;statue 7 0 looks 2 at 0;"
            + "wall 7 7;fountain 6 7;letter 0 from 0 to 7;";
    private static final String FOUR = "stones 2 2;statue 0 0 looks 3;statue 1 0 looks 6 at 0;statue 0 1 looks 0 at 0;"
            + "statue 1 1 looks 7 at 0;";

    private static void due(String call, long got, long want) {
        CHECK.due(call, got, want);
    }

    /** Promise 11. */
    private static void nights() {
        int[] refused = {0, 100, -1, Integer.MAX_VALUE, Integer.MIN_VALUE};
        for (int n : refused) {
            TurnedStatues x = Check.told(ROW);
            due("nights(" + n + ")", x.nights(n), -3);
            due("no NIGHT", x.count(4), 0);
            due("none turned", x.statue(0, 3), 4);
            due("nothing to undo", x.count(8), 0);
        }
        int[][] eighths = {{1, 8}, {2, 16}, {3, 24}, {4, 32}, {5, 32}, {98, 32}, {99, 32}};
        for (int[] e : eighths) {
            TurnedStatues x = Check.told(ROW);
            due("nights(" + e[0] + ")", x.nights(e[0]), e[1]);
            due("NIGHT", x.count(4), e[0]);
            due("to undo", x.count(8), 1);
            due("OFF", x.statue(3, 3), Math.max(0, 4 - e[0]));
            due("nights(1) then", x.nights(1), e[0] < 4 ? 8 : 0);
            due("even if all is as it was", x.count(8), 2);
        }
        // all at once: each turns by how all stood ahead, and FOES of that NIGHT come behind
        TurnedStatues x = Check.told("stones 2 3;statue 0 0 looks 3;statue 0 2 looks 1 at 0;letter 1 from 0 to 1;letter 2 from 1 to 0;"
                + "peace 2 from 1;letter 3 from 1 to 0;peace 3 from 0;letter 3 from 0 to 1;");
        int[] turned = {1, 1, 0, 0};
        int[] foes0 = {1, 1, 1, 1};
        int[] foes1 = {0, -1, 0, 0};
        int[] toCome = {5, 3, 0, 0};
        for (int night = 0; night < turned.length; night++) {
            due("turned on " + night, x.nights(1), turned[night]);
            due("FOE of 0 behind " + night, x.statue(0, 2), foes0[night]);
            due("FOE of 1 behind " + night, x.statue(1, 2), foes1[night]);
            due("still to come behind " + night, x.count(7), toCome[night]);
        }
        due("told", x.count(6), 6);
    }

    /** Letters, peaces, snow on the last NIGHT that can be told, and behind it. */
    private static void lastNights() {
        String two = "stones 2 3;statue 0 0 looks 4;statue 0 2 looks 3;";
        TurnedStatues x = Check.told(two + "letter 999 from 1 to 0;peace 1 from 0;snow 999 for 99;snow 0 for 1;snow 2 for 2;");
        int[] snow = {1, 0, 1, 1, 0};
        for (int night = 0; night < snow.length; night++) {
            due("snow on NIGHT " + night, x.count(5), snow[night]);
            due("still to come on NIGHT " + night, x.count(7), night < 1 ? 2 : 1);
            x.nights(1);
        }
        CHECK.pass(x, 998);
        due("snow on NIGHT 998", x.count(5), 0);
        due("no FOE yet", x.statue(1, 2), -1);
        due("to come", x.count(7), 1);
        CHECK.pass(x, 999);
        due("snow on NIGHT 999", x.count(5), 1);
        due("the FOE", x.statue(1, 2), 0);
        due("none to come", x.count(7), 0);
        due("turned in snow", x.nights(98), 0);
        due("NIGHT 1097", x.count(4), 1097);
        due("snow on NIGHT 1097", x.count(5), 1);
        due("turned in the last snow", x.nights(1), 0);
        due("snow on NIGHT 1098", x.count(5), 0);
        due("turned behind the snow", x.nights(1), 1);
        due("undo all snow", x.undo(3), 7);
        due("snow again", x.count(5), 1);
        due("undone to NIGHT", x.count(4), 999);
        // a letter comes but once, though NIGHTS that are UNDONE bring it again
        x = Check.told(two + "letter 2 from 1 to 0;");
        x.nights(2);
        due("it came", x.peace(1), 0);
        x.nights(9);
        due("it came once", x.statue(1, 2), -1);
        due("undo", x.undo(3), 0);
        due("to come again", x.count(7), 1);
        x.nights(2);
        due("it came again", x.statue(1, 2), 0);
        // of, to one that is DOWN
        x = Check.told(two + "letter 1 from 1 to 0;letter 2 from 0 to 1;peace 3 from 0;");
        x.down(0);
        int[][] foes = {{-1, 0}, {1, 0}, {-1, 0}};
        for (int[] f : foes) {
            x.nights(1);
            due("FOE of one that is DOWN", x.statue(0, 2), f[0]);
            due("FOE that is DOWN", x.statue(1, 2), f[1]);
        }
    }

    /** Promise 12 and 13. */
    private static void lettersAndPeaces() {
        TurnedStatues x = Check.told(ROW);
        int[][] refused = {{8, 0}, {0, 8}, {-1, 0}, {0, -1}, {8, 8}, {-1, -1}, {0, 0}, {7, 7}, {Integer.MIN_VALUE, 1},
            {1, Integer.MAX_VALUE}};
        for (int[] r : refused) {
            due("letter(" + r[0] + ", " + r[1] + ")", x.letter(r[0], r[1]), -11);
        }
        due("letter(0, 7)", x.letter(0, 7), 7);
        due("even if all is as it was", x.count(8), 1);
        due("letter(7, 6)", x.letter(7, 6), 0);
        due("its FOE", x.statue(7, 2), 6);
        due("letter(7, 0)", x.letter(7, 0), 6);
        due("peace(7)", x.peace(7), 0);
        due("peace(7) again", x.peace(7), -1);
        due("peace(0)", x.peace(0), 7);
        due("none as FOE", x.statue(0, 2), -1);
        due("all can be UNDONE", x.count(8), 6);
        for (int s : new int[] {8, -1, Integer.MAX_VALUE, Integer.MIN_VALUE}) {
            due("peace(" + s + ")", x.peace(s), -11);
        }
        x.down(3);
        due("letter from one DOWN", x.letter(3, 4), -12);
        due("letter to one DOWN", x.letter(4, 3), -12);
        due("letter of one DOWN to itself", x.letter(3, 3), -11);
        due("letter of one DOWN to none", x.letter(3, 8), -11);
        due("letter of none to one DOWN", x.letter(8, 3), -11);
        due("peace of one DOWN", x.peace(3), -12);
        due("its FOE stays", x.statue(3, 2), 0);
        due("of refused ones none can be UNDONE", x.count(8), 7);
        due("letter(4, 5) still", x.letter(4, 5), 0);
    }

    /** Promise 14 and 15. */
    private static void downAndUp() {
        TurnedStatues x = Check.told(ROW);
        for (int s : new int[] {8, -1, Integer.MAX_VALUE, Integer.MIN_VALUE}) {
            due("down(" + s + ")", x.down(s), -11);
            due("up(" + s + ", 8)", x.up(s, 8), -11);
            due("up(7, " + s + ") of one that stands", x.up(7, s == 8 ? 64 : s), -11);
        }
        due("up of one that stands", x.up(7, 8), -12);
        due("up of one that stands on a taken STONE", x.up(7, 63), -12);
        due("up of one that stands where it is", x.up(7, 7), -12);
        due("down(7)", x.down(7), 7);
        due("down(0)", x.down(0), 0);
        due("down(7) again", x.down(7), -12);
        due("those that stand", x.count(3), 6);
        due("STATUES", x.count(2), 8);
        int[][] ups = {{64, -11}, {-1, -11}, {Integer.MAX_VALUE, -11}, {Integer.MIN_VALUE, -11}, {63, -13}, {62, -13}, {6, -13}, {1, -13}};
        for (int[] u : ups) {
            due("up(7, " + u[0] + ")", x.up(7, u[0]), u[1]);
        }
        due("up(8, 63)", x.up(8, 63), -11);
        due("two can be UNDONE", x.count(8), 2);
        due("up(0, 7)", x.up(0, 7), 0);
        due("on another's STONE", x.stone(7), 0);
        due("up(7, 7)", x.up(7, 7), -13);
        // 7 looks east (2), and hates 0, who stands
        due("up(7, 56)", x.up(7, 56), 5);
        due("its STONE", x.statue(7, 0), 56);
        due("its DIRECTION", x.statue(7, 1), 2);
        due("its FOE", x.statue(7, 2), 0);
        due("its LOOK", x.look(7), Check.bits(57, 58, 59, 60, 61));
        due("those that stand now", x.count(3), 8);
        due("down(7) from 56", x.down(7), 56);
        due("up(7, 61)", x.up(7, 61), 0);
        due("down(7) from 61", x.down(7), 61);
        due("up(7, 0)", x.up(7, 0), 0);
        due("each STATUE again", x.stone(0), 7);
        x = Check.told("stones 8 8;statue 7 7 looks 0;statue 0 0 looks 2 at 0;");
        due("down(0) from 63", x.down(0), 63);
        due("up(0, 63)", x.up(0, 63), 7);
        x = Check.told("stones 2 2;statue 1 1 looks 0;statue 0 0 looks 2 at 0;");
        due("down(0) from 3", x.down(0), 3);
        due("up(0, 4)", x.up(0, 4), -11);
        due("up(0, 0)", x.up(0, 0), -13);
        due("up(0, 3)", x.up(0, 3), 1);
        // a letter that came while it was DOWN; it turns from how it looked
        x = Check.told("stones 2 3;statue 0 0 looks 7;statue 0 2 looks 0;letter 1 from 0 to 1;");
        x.down(0);
        due("none turns", x.nights(2), 0);
        x.up(0, 0);
        due("it would turn", x.statue(0, 5), 1);
        due("it turns", x.nights(1), 1);
        due("against the clock", x.statue(0, 1), 6);
    }

    /** Promise 16: each kind of call, and ten at most. */
    private static void undoing() {
        for (int kind = 0; kind < 7; kind++) {
            TurnedStatues x = Check.told(FOUR);
            x.down(3);
            Check.tray(x, 0, 2, -1, 12, 101, 200, 1303);
            int[] before = state(x);
            switch (kind) {
                case 0:
                    x.nights(3);
                    break;
                case 1:
                    x.letter(1, 2);
                    break;
                case 2:
                    x.peace(2);
                    break;
                case 3:
                    x.down(2);
                    break;
                case 4:
                    x.up(3, 3);
                    break;
                case 5:
                    due("perform", x.perform(0), 5);
                    break;
                default:
                    due("month", x.month(5, 60) > 0 ? 1 : 0, 1);
                    break;
            }
            due("kind " + kind + " counts once", x.count(8), 2);
            due("undo(1) of kind " + kind, x.undo(1), 1);
            CHECK.same("undone kind " + kind, state(x), before);
            due("undo(1) of down", x.undo(1), 0);
            due("3 stands", x.statue(3, 0), 3);
            due("undo(1) of nothing", x.undo(1), -3);
        }
        for (int calls = 0; calls <= 25; calls++) {
            int can = Math.min(calls, 10);
            for (int n = -1; n <= 12; n++) {
                TurnedStatues x = Check.told(FOUR);
                for (int i = 0; i < calls; i++) {
                    x.nights(1);
                }
                due("to undo of " + calls, x.count(8), can);
                boolean fine = n >= 1 && n <= can;
                due("undo(" + n + ") of " + calls, x.undo(n), fine ? can - n : -3);
                due("left", x.count(8), fine ? can - n : can);
                due("NIGHT", x.count(4), fine ? calls - n : calls);
            }
        }
        // round and round: what is UNDONE makes room at the latest end
        TurnedStatues x = Check.told(FOUR);
        for (int i = 0; i < 13; i++) {
            x.nights(i + 1);
        }
        due("undo(4)", x.undo(4), 6);
        due("NIGHT", x.count(4), 45);
        for (int i = 0; i < 5; i++) {
            x.nights(10);
        }
        due("ten again", x.count(8), 10);
        due("undo(10)", x.undo(10), 0);
        due("the eldest that is kept", x.count(4), 10);
        due("undo(most)", x.undo(Integer.MAX_VALUE), -3);
        due("undo(least)", x.undo(Integer.MIN_VALUE), -3);
    }

    private static int[] state(TurnedStatues x) {
        int[] all = new int[14];
        for (int s = 0; s < 4; s++) {
            for (int what = 0; what < 3; what++) {
                all[3 * s + what] = x.statue(s, what);
            }
        }
        all[12] = x.count(4);
        all[13] = x.count(7);
        return all;
    }

    /** DEEDS in a TRAY: the first and the last number of each kind, and those beside. */
    private static void deeds() {
        // 1 and 6 are DOWN
        long[][] why = {{-3, 1}, {-2, 1}, {-1, 0}, {0, 1}, {1, 2}, {2, 0}, {7, 0}, {8, 1}, {9, 1}, {10, 2}, {11, 1}, {16, 2}, {18, 1},
            {20, 0}, {22, 1}, {55, 1}, {57, 0}, {61, 2}, {66, 1}, {69, 1}, {70, 0}, {75, 0}, {76, 2}, {77, 1}, {78, 1}, {79, 1}, {80, 1},
            {81, 1}, {90, 1}, {99, 1}, {100, 0}, {101, 2}, {106, 2}, {107, 0}, {108, 1}, {109, 1}, {110, 1}, {170, 1}, {177, 1},
            {199, 1}, {200, 0}, {201, 2}, {206, 2}, {207, 0}, {208, 1}, {210, 1}, {277, 1}, {299, 1}, {300, 1}, {307, 1}, {900, 1},
            {999, 1}, {1000, 2}, {1063, 2}, {1064, 1}, {1099, 1}, {1100, 3}, {1101, 0}, {1106, 0}, {1107, 3}, {1108, 0}, {1161, 0},
            {1162, 3}, {1163, 3}, {1164, 1}, {1199, 1}, {1200, 2}, {1600, 3}, {1601, 0}, {1661, 0}, {1663, 3}, {1664, 1}, {1700, 2},
            {1763, 2}, {1764, 1}, {1799, 1}, {1800, 1}, {1808, 1}, {1863, 1}, {1900, 1}, {1908, 1}, {2000, 1}, {10000, 1},
            {Integer.MAX_VALUE, 1}, {Integer.MIN_VALUE, 1}, {1L << 32, 1}, {(1L << 32) + 2, 1}, {(1L << 32) - 1, 1}, {-1L << 32, 1},
            {(1L << 32) + 100, 1}, {(1L << 33) + 1108, 1}, {Long.MAX_VALUE, 1}, {Long.MIN_VALUE, 1}};
        for (long[] w : why) {
            TurnedStatues x = Check.told(ROW);
            x.down(1);
            x.down(6);
            Check.tray(x, 0, 3, -1, w[0], -1);
            due("judge, the first place, of " + w[0], x.judge(0, 0), w[1] == 0 ? -1 : 1);
            due("judge, why, of " + w[0], x.judge(0, 1), w[1]);
            due("perform " + w[0], x.perform(0), w[1] == 0 ? 3 : 1);
            due("NIGHT behind " + w[0], x.count(4), w[1] != 0 ? 1 : w[0] == -1 ? 3 : 2);
        }
        // what each does
        TurnedStatues x = Check.told(ROW);
        Check.tray(x, 0, 1, 76, 107, 67, 200, 207, 1761, 1000, 75, 206, 1607);
        due("perform all", x.perform(0), 10);
        due("letter, then PEACE, then DOWN, UP, a letter", x.statue(7, 2), 5);
        due("67", x.statue(6, 2), 7);
        due("1000", x.statue(0, 0), 0);
        due("1761", x.statue(7, 0), 61);
        due("1607", x.statue(6, 0), 7);
        due("one call", x.count(8), 1);
        x = Check.told(ROW);
        Check.tray(x, 0, 1, 100, 101, 102, 103, 104, 105, 106, 107, 200, 201, 202, 203, 204, 205, 206, 207);
        due("PEACE and DOWN of all", x.perform(0), 16);
        due("none stands", x.count(3), 0);
        for (int s = 0; s < 8; s++) {
            due("no FOE", x.statue(s, 2), -1);
            Check.tray(x, 1, 1, 1000 + 100 * s + 8 * s);
            due("up " + s, x.perform(1), 1);
            due("on", x.statue(s, 0), 8 * s);
        }
        // a TRAY of 8 bits has no DEEDS above 127
        Check.tray(x, 2, 0, 100, 127);
        due("127", x.judge(2, 0), 1);
        Check.tray(x, 2, 0, 100, 200);
        due("200 is -56", x.judge(2, 0), 1);
        Check.tray(x, 2, 0, 100, 255);
        due("255 is a NIGHT", x.judge(2, 0), -1);
        Check.tray(x, 2, 1, 65535, 65536 + 100);
        due("a NIGHT, and 100", x.judge(2, 0), -1);
    }

    /** 1000 to 1763: each STATUE set UP on the first STONE, on the last one, on others. */
    private static void deedsUp() {
        for (int s = 0; s < 8; s++) {
            TurnedStatues x = Check.told(ROW.replace("wall 7 7;fountain 6 7;", ""));
            Check.tray(x, 0, 1, 200, 201, 202, 203, 204, 205, 206, 207);
            due("all DOWN", x.perform(0), 8);
            for (int k : new int[] {0, 1, 7, 8, 55, 62, 63}) {
                Check.tray(x, 0, 1, 1000 + 100 * s + k);
                due("up " + s + " on " + k, x.perform(0), 1);
                for (int other = 0; other < 8; other++) {
                    due("where " + other + " is", x.statue(other, 0), other == s ? k : -1);
                }
                Check.tray(x, 0, 1, 200 + s);
                due("down " + s, x.perform(0), 1);
            }
        }
    }

    /** Promise 17 and 18: none, one and forty, up to the first and the last place. */
    private static void fullTrays() {
        long[] forty = new long[40];
        java.util.Arrays.fill(forty, -1);
        TurnedStatues x = Check.told(ROW);
        Check.tray(x, 0, 0, forty);
        int[] all = {-1, 0, 32, 0};
        for (int what = 0; what < 4; what++) {
            due("judge 40, " + what, x.judge(0, what), all[what]);
        }
        for (int at = 39; at >= 0; at--) {
            x.write(0, at, 99);
            due("judge to " + at, x.judge(0, 0), at);
            due("why at " + at, x.judge(0, 1), 1);
            due("eighths to " + at, x.judge(0, 2), Math.min(32, 8 * at));
            due("NIGHT", x.count(4), 0);
        }
        x = Check.told(ROW);
        Check.tray(x, 0, 0, forty);
        due("perform 40", x.perform(0), 40);
        due("NIGHT 40", x.count(4), 40);
        due("one to undo", x.count(8), 1);
        x.write(0, 39, 99);
        due("perform 39", x.perform(0), 39);
        due("NIGHT 79", x.count(4), 79);
        x.write(0, 1, 108);
        due("perform 1", x.perform(0), 1);
        due("NIGHT 80", x.count(4), 80);
        due("three to undo", x.count(8), 3);
        x.write(0, 0, 77);
        due("perform none", x.perform(0), 0);
        due("NIGHT 80 still", x.count(4), 80);
        due("three to undo still", x.count(8), 3);
        Check.tray(x, 0, 0);
        due("perform of nothing", x.perform(0), 0);
        due("three to undo again", x.count(8), 3);
        due("undo", x.undo(1), 2);
        due("undone as a whole", x.count(4), 79);
        int[] nothing = {-1, 0, 0, 0};
        for (int what = 0; what < 4; what++) {
            due("judge nothing, " + what, x.judge(0, what), nothing[what]);
        }
        for (int what : new int[] {-1, 4, Integer.MAX_VALUE, Integer.MIN_VALUE}) {
            due("judge what " + what, x.judge(0, what), -2);
            due("judge what of a MISSING TRAY " + what, x.judge(1, what), -2);
        }
        for (int tray : new int[] {-1, 4, Integer.MAX_VALUE, Integer.MIN_VALUE}) {
            due("judge(" + tray + ")", x.judge(tray, 0), -2);
            due("perform(" + tray + ")", x.perform(tray), -2);
        }
        for (int tray = 1; tray < 4; tray++) {
            due("judge MISSING " + tray, x.judge(tray, 3), -6);
            due("perform MISSING " + tray, x.perform(tray), -6);
            Check.tray(x, tray, 0, -1);
            due("perform " + tray, x.perform(tray), 1);
        }
        // judged up to the first that can't be: what comes behind counts no more, though it could be
        x = Check.told("stones 8 8;statue 0 0 looks 2;statue 0 7 looks 2 at 0;");
        Check.tray(x, 0, 2, 201, 201, 1108, -1);
        int[] judged = {1, 2, 0, 0};
        for (int what = 0; what < 4; what++) {
            due("judge " + what, x.judge(0, what), judged[what]);
        }
        Check.tray(x, 0, 2, 201, 1116, -1, 1);
        // 0 looks over 1 to 7, 1 over 9 and 2
        int[] then = {-1, 0, 1, 8};
        for (int what = 0; what < 4; what++) {
            due("judge all " + what, x.judge(0, what), then[what]);
        }
    }

    /** Promise 19. */
    private static void months() {
        TurnedStatues x = Check.told("stones 2 2;");
        due("no STATUES", x.month(1, 1), -5);
        due("no STATUES, 60", x.month(1, 60), -5);
        for (int times : new int[] {0, 61, -1, Integer.MAX_VALUE, Integer.MIN_VALUE}) {
            due("no STATUES, " + times, x.month(1, times), -3);
            TurnedStatues y = Check.told(FOUR);
            due("month " + times, y.month(1, times), -3);
            due("nothing to undo", y.count(8), 0);
            due("no NIGHT", y.count(4), 0);
        }
        // DRAWS by SEED 1 are, modulo 32768: 16838 5758 10113 17515 31051 5627 23010 7419 16212 (as in the C standard's rand):
        // a letter from 2 to 1, PEACE of 3, PEACE of 2, PEACE of 0
        int[][] foes = {{-1, 0, 1, 0}, {-1, 0, 1, -1}, {-1, 0, -1, -1}, {-1, 0, -1, -1}};
        for (int times = 1; times <= 4; times++) {
            x = Check.told(FOUR);
            due("month(1, " + times + ")", x.month(1, times), times);
            for (int s = 0; s < 4; s++) {
                due("FOE of " + s, x.statue(s, 2), foes[times - 1][s]);
            }
            due("no NIGHT by SEED 1", x.count(4), 0);
            due("undo", x.undo(1), 0);
            due("FOE undone", x.statue(3, 2), 0);
        }
        // x is 12345 by SEED 0: DRAW 0, a NIGHT
        x = Check.told(FOUR);
        due("month(0, 1)", x.month(0, 1), 1);
        due("a NIGHT", x.count(4), 1);
        int[] seeds = {0, 1, -1, 2, 12345, Integer.MAX_VALUE, Integer.MIN_VALUE, 65536, -65536};
        for (int statues = 1; statues <= 8; statues++) {
            for (int seed = -30; seed < 30 + seeds.length; seed++) {
                int own = seed < 30 ? seed : seeds[seed - 30];
                asDrawn(statues, own, 60, false);
                asDrawn(statues, own, 59, true);
                asDrawn(statues, own, 1, false);
                asDrawn(statues, own, 1, true);
            }
        }
    }

    /** A MONTH does what calls do that follow its DRAWS. */
    private static void asDrawn(int statues, int seed, int times, boolean oneDown) {
        StringBuilder b = new StringBuilder("stones 8 8;");
        for (int s = 0; s < statues; s++) {
            b.append("statue ").append(s).append(' ').append(7 - s).append(" looks ").append(s);
            b.append(s > 0 ? " at " + (s - 1) + ";" : ";");
        }
        TurnedStatues x = Check.told(b.toString());
        TurnedStatues y = Check.told(b.toString());
        if (oneDown) {
            x.down(statues - 1);
            y.down(statues - 1);
        }
        long[] seeded = {seed & 0xffffffffL};
        int done = 0;
        for (int i = 0; i < times; i++) {
            int kind = draw(seeded) % 4;
            int answer;
            if (kind < 2) {
                answer = y.nights(1);
            } else if (kind == 2) {
                int from = draw(seeded) % statues;
                answer = y.letter(from, draw(seeded) % statues);
            } else {
                answer = y.peace(draw(seeded) % statues);
            }
            done += answer > -11 ? 1 : 0;
        }
        String what = "month(" + seed + ", " + times + ") of " + statues;
        due(what, x.month(seed, times), done);
        due(what + " NIGHT", x.count(4), y.count(4));
        due(what + " to undo", x.count(8), (oneDown ? 1 : 0) + (done > 0 ? 1 : 0));
        for (int s = 0; s < statues; s++) {
            due(what + " DIRECTION", x.statue(s, 1), y.statue(s, 1));
            due(what + " FOE", x.statue(s, 2), y.statue(s, 2));
        }
        if (done > 0) {
            x.undo(1);
        }
        due(what + " undone", x.count(4), 0);
        for (int s = 0; s < statues; s++) {
            due(what + " DIRECTION undone", x.statue(s, 1), s);
            due(what + " FOE undone", x.statue(s, 2), s - 1);
        }
    }

    private static int draw(long[] x) {
        x[0] = (x[0] * 1103515245L + 12345L) & 0xffffffffL;
        return (int) (x[0] >> 16);
    }

    public static void main(String[] args) {
        nights();
        lastNights();
        lettersAndPeaces();
        downAndUp();
        undoing();
        deeds();
        deedsUp();
        fullTrays();
        months();
        CHECK.end();
    }
}
