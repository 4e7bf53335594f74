/** Promises 1 to 10 and the terms they use, at their edges: nothing told, all told, the first and the last STONE and STATUE. */
public final class SquareEdgesTest {
    private static final Check CHECK = new Check();

    private static void due(String call, long got, long want) {
        CHECK.due(call, got, want);
    }

    /** Promise 1, and each call where there are no STONES, no STATUES. */
    private static void nothing(String how, TurnedStatues x) {
        int[] none = {0, 1, -1, 7, 63, Integer.MAX_VALUE, Integer.MIN_VALUE};
        for (int k : none) {
            due(how + "statue", x.statue(k, 0), -8);
            due(how + "stone", x.stone(k), -2);
            due(how + "look", x.look(k), -2);
            due(how + "watchers", x.watchers(k), -2);
            due(how + "towards", x.towards(k), -2);
            due(how + "letter", x.letter(k, 0), -11);
            due(how + "letter to", x.letter(0, k), -11);
            due(how + "peace", x.peace(k), -11);
            due(how + "down", x.down(k), -11);
            due(how + "up", x.up(k, 0), -11);
            due(how + "up on", x.up(0, k), -11);
            due(how + "later", x.later(k, 0, 0), -8);
            due(how + "facing", x.facing(k), -2);
            due(how + "ringOf", x.ringOf(k), -2);
            due(how + "way", x.way(k, 0), -2);
            due(how + "way to", x.way(0, k), -2);
            due(how + "reach", x.reach(k, 0), -2);
            due(how + "ways", x.ways(k, k, 0), -2);
            due(how + "step", x.step(k, k, 0), -2);
            due(how + "freeIn", x.freeIn(k), -2);
            due(how + "takeDown", x.takeDown(k, 0), -2);
            due(how + "reconcile", x.reconcile(k, 0), -2);
            due(how + "blocks", x.blocks(k), -2);
            due(how + "frees", x.frees(k, 0, 0), -2);
        }
        due(how + "under", x.under(), 0);
        due(how + "month", x.month(1, 60), -5);
        due(how + "still", x.still(), 0);
        due(how + "pair", x.pair(), -1);
        due(how + "rings", x.rings(), 0);
        due(how + "calm", x.calm(), 0);
        due(how + "turners", x.turners(60), 0);
        for (int what = 0; what < 9; what++) {
            due(how + "count " + what, x.count(what), 0);
        }
        due(how + "walls", x.count(11), 0);
        due(how + "undo", x.undo(1), -3);
    }

    /** A TRAY of no numbers has as many as there are STATUES. */
    private static void emptyTrays(String how, TurnedStatues x) {
        due(how + "numbers", x.numbers(2, 0, 0), 0);
        due(how + "write", x.write(2, 0, 0), -7);
        due(how + "copy", x.copy(2), 0);
        due(how + "seen", x.seen(2, 0), 1);
        due(how + "seen in 60", x.seen(2, 60), 1);
        due(how + "writer", x.writer(2, 60, 0), -1);
        due(how + "written to", x.writer(2, 0, 1), -1);
        due(how + "perform", x.perform(2), 0);
        int[] judged = {-1, 0, 0, 0};
        for (int what = 0; what < judged.length; what++) {
            due(how + "judge " + what, x.judge(2, what), judged[what]);
        }
        Check.tray(x, 2, 0, 0);
        due(how + "seen by one", x.seen(2, 0), -4);
        due(how + "no copy", x.copy(2), 0);
        long[] deeds = {0, 1, 77, 100, 200, 1000, 1763};
        for (long deed : deeds) {
            Check.tray(x, 2, 1, deed);
            due(how + "why not " + deed, x.judge(2, 1), 1);
            due(how + "perform " + deed, x.perform(2), 0);
        }
        due(how + "nothing was done", x.count(8), 0);
        Check.tray(x, 2, 0, -1, -1, 0);
        due(how + "judge NIGHTS", x.judge(2, 0), 2);
        due(how + "eighths", x.judge(2, 2), 0);
        due(how + "perform NIGHTS", x.perform(2), 2);
        due(how + "NIGHT", x.count(4), 2);
        due(how + "nights(99)", x.nights(99), 0);
        due(how + "NIGHT later", x.count(4), 101);
        due(how + "undo", x.undo(2), 0);
        due(how + "NIGHT again", x.count(4), 0);
    }

    private static void nothingThere() {
        due("NONE", TurnedStatues.NONE, -1);
        TurnedStatues x = new TurnedStatues();
        nothing("new: ", x);
        due("new LINES", x.count(10), 0);
        due("new TAPE", x.count(9), 0);
        due("new fault", x.fault(0), 0);
        due("new place", x.fault(1), -1);
        for (int tray = 0; tray < 4; tray++) {
            due("new judge", x.judge(tray, 0), -6);
            due("new perform", x.perform(tray), -6);
            due("new seen", x.seen(tray, 0), -6);
            due("new writer", x.writer(tray, 0, 0), -6);
            due("new write", x.write(tray, 0, 0), -6);
            due("new copy", x.copy(tray), -6);
        }
        due("new restore(0)", x.restore(0), -5);
        due("new restore(1)", x.restore(1), -5);
        emptyTrays("new: ", x);
        x = new TurnedStatues();
        due("square(0)", x.square(0), 0);
        nothing("square(0): ", x);
        due("LINES of nothing", x.count(10), 0);
        emptyTrays("square(0): ", x);
        nothing("no stones: ", Check.told("rest : 1 = 1;"));
        emptyTrays("no stones: ", Check.told("rest : 1 = 1;"));
        String last = "stones 8 8;statue 7 7 looks 3;wall 0 0;peace 5 from 0;snow 0 for 9;";
        x = Check.told(last);
        x.nights(1);
        due("nothing is told", Check.tell(x, ""), 0);
        nothing("all gone: ", x);
        due("an image of nothing", x.image(1), 0);
        Check.tell(x, last);
        x.down(0);
        due("restore(1)", x.restore(1), 0);
        nothing("restored: ", x);
    }

    /** Promise 2. */
    private static void feeding() {
        TurnedStatues x = new TurnedStatues();
        for (int i = 1; i <= 45; i++) {
            due("feed", x.feed(-1, -1, -1, -1, -1), 20 * i);
            due("bytes", x.count(9), 20 * i);
        }
        for (int i = 0; i < 3; i++) {
            due("feed a full TAPE", x.feed(0, 0, 0, 0, 0), -5);
            due("bytes of a full TAPE", x.count(9), 900);
        }
        due("square(900)", x.square(900), -31);
        due("place", x.fault(1), 0);
        due("feed an empty TAPE", x.feed(0, 0, 0, 0, 0), 20);
        // a refused feed changes no byte of a full TAPE
        x = Check.told("");
        Check.feed(x, "stones 2 2;" + " ".repeat(880) + "wall 0 0;");
        due("full", x.feed(-1, -1, -1, -1, -1), -5);
        due("what was fed", x.square(900), 2);
        // the highest byte of each int first: each of twenty places
        for (int at = 0; at < 20; at++) {
            x = new TurnedStatues();
            int[] five = {0x20202020, 0x20202020, 0x20202020, 0x20202020, 0x20202020};
            five[at / 4] += 4 << 24 - 8 * (at % 4);
            x.feed(0x0a0a0a0a, 0x20202020, 0x0a200a20, 0x20202020, 0x2020200a);
            x.feed(five[0], five[1], five[2], five[3], five[4]);
            due("a $ at " + at, x.square(40), -31);
            due("its place", x.fault(1), 20 + at);
            five[at / 4] |= 255 << 24 - 8 * (at % 4);
            x.feed(five[0], five[1], five[2], five[3], five[4]);
            due("a 255 at " + at, x.square(at), 0);
            x.feed(five[0], five[1], five[2], five[3], five[4]);
            due("a 255 at the end", x.square(at + 1), -31);
            due("its place then", x.fault(1), at);
        }
    }

    /** Promise 3 and 4. */
    private static void squares() {
        TurnedStatues x = new TurnedStatues();
        String text = "stones 2 2;wall 0 0;";
        int[] lines = new int[21];
        for (int n = 0; n <= 20; n++) {
            lines[n] = n == 0 ? 0 : n == 11 ? 1 : n == 20 ? 2 : -32;
        }
        for (int n = 0; n <= 20; n++) {
            Check.feed(x, text);
            due("square(-1)", x.square(-1), -3);
            due("square(21)", x.square(21), -3);
            due("square(least)", x.square(Integer.MIN_VALUE), -3);
            due("square(most)", x.square(Integer.MAX_VALUE), -3);
            due("THE TAPE stays", x.count(9), 20);
            due("square(" + n + ")", x.square(n), lines[n]);
            due("fault", x.fault(0), lines[n] < 0 ? 2 : 0);
            due("no fault of a refused one", x.square(1), -3);
            due("fault stays", x.fault(0), lines[n] < 0 ? 2 : 0);
            due("fault(2)", x.fault(2), -1);
            due("fault(-1)", x.fault(-1), -1);
            due("fault(most)", x.fault(Integer.MAX_VALUE), -1);
            due("fault(least)", x.fault(Integer.MIN_VALUE), -1);
            due("THE TAPE is empty", x.count(9), 0);
        }
        due("what stands", x.stone(0), -10);
        Check.feed(x, text + text);
        due("the first 20 of 40", x.square(20), 2);
        due("none are left", x.square(1), -3);
        // each FAULT and its code, and what it leaves
        String[] faulty = {"stones 2 2;$", "stones 2 2 2;", "stones 2 9;", "snow 1 for 1;".repeat(4) + "snow 1 for 1;"};
        int[] places = {11, 11, 9, 52};
        for (int fault = 1; fault <= 4; fault++) {
            due("fault " + fault, Check.tell(x, faulty[fault - 1]), -30 - fault);
            due("fault(0)", x.fault(0), fault);
            due("fault(1)", x.fault(1), places[fault - 1]);
            due("THE SQUARE stays", x.stone(0), -10);
            due("WIDE stays", x.count(0), 2);
            due("LINES stay", x.count(10), 2);
            due("no snow", x.count(5), 0);
        }
    }

    /** A text makes NIGHT 0 and forgets what could be UNDONE; TRAYS and IMAGES stay. */
    private static void anew() {
        String text = "stones 2 3;statue 0 0 looks 0;statue 0 2 looks 2 at 0;snow 5 for 1;";
        TurnedStatues x = Check.told(text);
        x.nights(5);
        x.image(1);
        x.letter(0, 1);
        Check.tray(x, 3, 2, 201, 301);
        due("to undo", x.count(8), 2);
        due("a fault", Check.tell(x, text + "snow"), -32);
        due("still to undo", x.count(8), 2);
        due("the NIGHT stays", x.count(4), 5);
        due("the snow stays", x.count(5), 1);
        due("the FOE stays", x.statue(0, 2), 1);
        due("the DIRECTION stays", x.statue(1, 1), 0);
        due("told again", Check.tell(x, text), 4);
        due("NIGHT 0", x.count(4), 0);
        due("nothing to undo", x.undo(1), -3);
        due("no snow yet", x.count(5), 0);
        due("FOE as told", x.statue(0, 2), -1);
        due("DIRECTION as told", x.statue(1, 1), 2);
        due("the TRAY stays", x.judge(3, 0), 1);
        due("the IMAGE stays", x.restore(1), 0);
        due("its NIGHT", x.count(4), 5);
        // letters and peaces of NIGHT 0 take effect as the text is told, in order
        x = Check.told("stones 2 2;statue 0 0 looks 0;statue 1 0 looks 0 at 0;statue 0 1 looks 0 at 1;letter 0 from 2 to 0;"
                + "letter 0 from 0 to 2;peace 0 from 1;letter 0 from 2 to 1;peace 1 from 2;letter 1 from 2 to 0;");
        due("two letters", x.statue(2, 2), 1);
        due("one letter", x.statue(0, 2), 2);
        due("one peace", x.statue(1, 2), -1);
        due("to come", x.count(7), 2);
        due("nothing to undo at first", x.count(8), 0);
    }

    /** A text has nothing of the one ahead, whether that stood or was at fault: no FOE, letter, snow, wall, law, no STONE. */
    private static void nothingLeft() {
        String[] ahead = {"stones 8 8;statue 7 7 looks 7;statue 6 6 looks 3 at 0;statue 5 5 looks 3 at 1;letter 3 from 1 to 2;"
                + "letter 0 from 0 to 1;peace 3 from 2;letter 4 from 0 to 2;snow 0 for 99;snow 2 for 9;wall 0 0;fountain 1 1;"
                + "wall 2 0;rest : 1 = 1;", "wall 0 0;", "stones 2 2;statue 0 0 looks 3;statue 1 1 looks 3 at 0;rest : 1 = 1;"};
        for (String first : ahead) {
            for (String end : new String[] {"", "$"}) {
                TurnedStatues x = new TurnedStatues();
                Check.tell(x, first + end);
                due("behind " + first + end, Check.tell(x, "stones 3 3;statue 0 0 looks 1;statue 2 2 looks 3 at 0;statue 0 2 looks 1;"), 4);
                int[] counts = {3, 3, 3, 3, 0, 0, 0, 0, 0, 0, 4, 0};
                for (int what = 0; what < counts.length; what++) {
                    due("count(" + what + ")", x.count(what), counts[what]);
                }
                int[] on = {0, -1, -1, -1, -1, -1, 2, -1, 1, -2, -2};
                for (int k = 0; k < on.length; k++) {
                    due("stone(" + k + ")", x.stone(k), on[k]);
                }
                int[] foes = {-1, 0, -1};
                for (int night = 0; night < 5; night++) {
                    for (int s = 0; s < foes.length; s++) {
                        due("FOE on NIGHT " + night, x.statue(s, 2), foes[s]);
                    }
                    due("turned on NIGHT " + night, x.nights(1), night < 4 ? 1 : 0);
                }
                due("all is still", x.still(), 0);
            }
        }
        // STONES beside one another, from one square to the next
        TurnedStatues x = new TurnedStatues();
        for (int[] size : new int[][] {{8, 8}, {3, 3}, {5, 2}, {2, 8}, {8, 2}, {4, 4}, {7, 8}, {8, 7}, {2, 2}, {8, 8}}) {
            int wide = size[0];
            int last = wide * size[1] - 1;
            due("stones", Check.tell(x, "stones " + wide + " " + size[1] + ";"), 1);
            due("way of " + last, x.way(0, last), wide + size[1] - 2);
            due("row to row of " + last, x.way(wide - 1, wide), wide);
            due("reach of " + last, x.reach(last, 1), Check.bits(last, last - 1, last - wide));
            due("reach of all of " + last, x.reach(last, 40), last == 63 ? -1 : (1L << last + 1) - 1);
            due("ways of 2 of " + last, x.ways(last, last, 2), 3);
        }
    }

    /** Promise 5, 10: OFF 0 to 4 of each DIRECTION from each, and which way one turns: with the clock if it is as far. */
    private static void turns() {
        int[][] at = {{3, 2}, {4, 2}, {4, 3}, {4, 4}, {3, 4}, {2, 4}, {2, 3}, {2, 2}};
        int[] offs = {0, 1, 2, 3, 4, 3, 2, 1};
        for (int aim = 0; aim < 8; aim++) {
            for (int more = 0; more < 8; more++) {
                int dir = (aim + more) % 8;
                TurnedStatues x = Check.told("stones 8 8;statue " + at[aim][0] + " " + at[aim][1] + " looks 0;statue 3 3 looks " + dir
                        + " at 0;");
                String what = dir + " to " + aim;
                due(what + " towards", x.towards(1), aim);
                due(what + " off", x.statue(1, 3), offs[more]);
                due(what + " would turn", x.statue(1, 5), more == 0 ? 0 : 1);
                due(what + " sees", x.statue(1, 4), more == 0 ? 0 : -1);
                due(what + " facing", x.facing(1), offs[more]);
                due(what + " still", x.still(), offs[more]);
                // more than 4 behind with the clock: against it; 4: with it
                int then = more == 0 ? dir : more >= 4 ? (dir + 1) % 8 : (dir + 7) % 8;
                due(what + " then", x.later(1, 1, 0), then);
                due(what + " nights(1)", x.nights(1), more == 0 ? 0 : 1);
                due(what + " turned", x.statue(1, 1), then);
                due(what + " nights(99)", x.nights(99), more == 0 ? 0 : offs[more] - 1);
                due(what + " in the end", x.statue(1, 1), aim);
            }
        }
    }

    /** Promise 10: more than twice as far is straight, just twice slanting; rows of y, DIRECTIONS by x. */
    private static void aims() {
        String[] fromMiddle = {"70000011", "77000111", "77000111", "77701111", "67701122", "666.2222", "65543322", "55543333"};
        String[] fromCorner = {".2222222", "43322222", "43333222", "44333332", "44333333", "44433333", "44433333", "44443333"};
        int[] leftOf = {0, 7, 6, 5, 4, 3, 2, 1};
        int[] aboveOf = {4, 3, 2, 1, 0, 7, 6, 5};
        for (int y = 0; y < 8; y++) {
            for (int x = 0; x < 8; x++) {
                if (fromMiddle[y].charAt(x) != '.') {
                    aim(3, 5, x, y, fromMiddle[y].charAt(x) - '0');
                }
                if (fromCorner[y].charAt(x) != '.') {
                    int dir = fromCorner[y].charAt(x) - '0';
                    aim(0, 0, x, y, dir);
                    aim(7, 0, 7 - x, y, leftOf[dir]);
                    aim(0, 7, x, 7 - y, aboveOf[dir]);
                    aim(7, 7, 7 - x, 7 - y, leftOf[aboveOf[dir]]);
                }
            }
        }
    }

    private static void aim(int x, int y, int toX, int toY, int dir) {
        TurnedStatues t = Check.told("stones 8 8;statue " + toX + " " + toY + " looks 0;statue " + x + " " + y + " looks 0 at 0;");
        due("from " + x + " " + y + " towards " + toX + " " + toY, t.towards(1), dir);
        due("the other one has no FOE", t.towards(0), -1);
    }

    /** Promise 5, 7: a LOOK ends at the edge and goes on nowhere: not on the next row, not on the other side. */
    private static void edges() {
        // STATUES on STONES 0, 7, 8, 15, 24, 31, 56, 63, the four corners and others of the first and the last column
        int[] stones = {0, 7, 8, 15, 24, 31, 56, 63};
        // for each DIRECTION who of them is seen from each
        int[][] seen = {
            {-1, -1, 0, 1, 2, 3, 4, 5}, {-1, -1, -1, -1, -1, -1, 1, -1}, {1, -1, 3, -1, 5, -1, 7, -1}, {7, -1, -1, -1, -1, -1, -1, -1},
            {2, 3, 4, 5, 6, 7, -1, -1}, {-1, 6, -1, -1, -1, -1, -1, -1}, {-1, 0, -1, 2, -1, 4, -1, 6}, {-1, -1, -1, -1, -1, -1, -1, 0}};
        for (int dir = 0; dir < 8; dir++) {
            StringBuilder b = new StringBuilder("stones 8 8;");
            for (int s = 0; s < 8; s++) {
                b.append("statue ").append(stones[s] % 8).append(' ').append(stones[s] / 8).append(" looks ").append(dir);
                b.append(s > 0 ? " at 0;" : ";");
            }
            TurnedStatues x = Check.told(b + "letter 0 from 0 to 7;");
            for (int s = 0; s < 8; s++) {
                due(s + " sees along " + dir, x.statue(s, 4), seen[dir][s]);
            }
        }
        // at the edge with the LOOK outwards: no STONE
        int[][] out = {{0, 0}, {0, 1}, {0, 5}, {0, 6}, {0, 7}, {7, 0}, {7, 1}, {7, 2}, {7, 3}, {7, 7}, {56, 3}, {56, 4}, {56, 5},
            {56, 6}, {56, 7}, {63, 1}, {63, 2}, {63, 3}, {63, 4}, {63, 5}, {3, 0}, {3, 1}, {3, 7}, {60, 3}, {60, 4}, {60, 5},
            {24, 5}, {24, 6}, {24, 7}, {31, 1}, {31, 2}, {31, 3}};
        for (int[] o : out) {
            TurnedStatues x = Check.told("stones 8 8;statue 3 3 looks 0;statue " + o[0] % 8 + " " + o[0] / 8 + " looks " + o[1] + " at 0;");
            due("look outwards from " + o[0], x.look(1), 0);
            due("sees outwards from " + o[0], x.statue(1, 4), -1);
            due("under outwards from " + o[0], x.under(), 0);
        }
    }

    /** Promise 5, 7, 8, 9 in squares of each shape, from each STONE along each DIRECTION; a STATUE without a FOE looks at none. */
    private static void shapes() {
        int[] dx = {0, 1, 1, 1, 0, -1, -1, -1};
        int[] dy = {-1, -1, 0, 1, 1, 1, 0, -1};
        for (int[] size : new int[][] {{2, 8}, {8, 2}, {3, 5}, {5, 3}, {2, 2}, {8, 8}}) {
            for (int k = 0; k < size[0] * size[1]; k++) {
                for (int dir = 0; dir < 8; dir++) {
                    int x = k % size[0];
                    int y = k / size[0];
                    long bits = 0;
                    int end = -1;
                    for (int i = 1; inside(size, x + i * dx[dir], y + i * dy[dir]); i++) {
                        end = (y + i * dy[dir]) * size[0] + x + i * dx[dir];
                        bits |= 1L << end;
                    }
                    // the FOE is where it is not looked at
                    int other = 0;
                    while (other == k || (bits >>> other & 1) != 0) {
                        other++;
                    }
                    String stones = "stones " + size[0] + " " + size[1] + ";statue ";
                    String looker = "statue " + x + " " + y + " looks " + dir + " at 0;";
                    TurnedStatues t = Check.told(stones + other % size[0] + " " + other / size[0] + " looks 0;" + looker);
                    String what = "look of " + k + " along " + dir + " in " + size[0] + " by " + size[1];
                    due(what, t.look(1), bits);
                    due(what + ", under", t.under(), bits);
                    due(what + ", sees", t.statue(1, 4), -1);
                    due(what + ", the other one's", t.look(0), 0);
                    if (end != -1) {
                        due(what + ", watchers", t.watchers(end), 2);
                        t = Check.told(stones + end % size[0] + " " + end / size[0] + " looks 0;" + looker);
                        due(what + " at the end", t.look(1), bits & ~(1L << end));
                        due(what + ", sees at the end", t.statue(1, 4), 0);
                        due(what + ", watchers of a STATUE", t.watchers(end), 0);
                    }
                }
            }
        }
    }

    private static boolean inside(int[] size, int x, int y) {
        return x >= 0 && x < size[0] && y >= 0 && y < size[1];
    }

    /** Promise 5, 10, 21, 22 of each of eight: who all should look south, at one who is DOWN at last. */
    private static void eachOfEight() {
        StringBuilder b = new StringBuilder("stones 8 8;statue 0 0 looks 0;");
        for (int s = 1; s < 8; s++) {
            b.append("statue ").append(s).append(" 0 looks ").append(s).append(" at 0;");
        }
        TurnedStatues x = Check.told(b.toString());
        // 0 goes to STONE 60, so that it is south of all but 0, slanting of none; 0 hates 7
        x.down(0);
        for (int s = 1; s < 8; s++) {
            due("OFF while its FOE is DOWN", x.statue(s, 3), 0);
            due("towards while its FOE is DOWN", x.towards(s), -1);
        }
        x.up(0, 60);
        x.letter(0, 7);
        int[] off = {0, 3, 2, 1, 0, 1, 2, 3};
        for (int s = 1; s < 8; s++) {
            due("towards of " + s, x.towards(s), 4);
            due("OFF of " + s, x.statue(s, 3), off[s]);
            due("would turn " + s, x.statue(s, 5), s == 4 ? 0 : 1);
            due("facing of " + s, x.facing(s), off[s]);
            due("later of " + s, x.later(s, 1, 0), s < 4 ? s + 1 : s > 4 ? s - 1 : 4);
            due("later of " + s + ", 200", x.later(s, 200, 0), 4);
            due("FOE later of " + s, x.later(s, 200, 1), 0);
        }
        // from 4 7 to 7 0 it is 3 and 7: straight
        due("towards of 0", x.towards(0), 0);
        due("turners", x.turners(1), 255 - 1 - 16);
        due("eighths", x.nights(99), 12);
    }

    /** Promise 7, 8, 9: the longest LOOKS, the last STONE, the last STATUE. */
    private static void longLooks() {
        TurnedStatues x = Check.told("stones 8 8;statue 7 0 looks 4;statue 0 7 looks 2 at 0;letter 0 from 0 to 1;");
        long column = Check.bits(15, 23, 31, 39, 47, 55, 63);
        long row = Check.bits(57, 58, 59, 60, 61, 62, 63);
        due("look down", x.look(0), column);
        due("look right", x.look(1), row);
        due("under both", x.under(), column | row);
        due("watchers(63)", x.watchers(63), 3);
        due("watchers(62)", x.watchers(62), 2);
        due("watchers(55)", x.watchers(55), 1);
        due("watchers(7)", x.watchers(7), 0);
        due("watchers(64)", x.watchers(64), -2);
        x = Check.told("stones 8 8;statue 0 0 looks 3;statue 7 0 looks 5 at 0;letter 0 from 0 to 1;");
        due("look slanting", x.look(0), Check.bits(9, 18, 27, 36, 45, 54, 63));
        due("look slanting back", x.look(1), Check.bits(14, 21, 28, 35, 42, 49, 56));
        x = Check.told("stones 8 8;statue 7 7 looks 7;statue 0 7 looks 1 at 0;letter 0 from 0 to 1;");
        due("look slanting from 63", x.look(0), Check.bits(54, 45, 36, 27, 18, 9, 0));
        due("look slanting from 56", x.look(1), Check.bits(49, 42, 35, 28, 21, 14, 7));
        due("watchers(0)", x.watchers(0), 1);
        x = Check.told("stones 8 8;statue 7 7 looks 0;statue 0 7 looks 0 at 0;letter 0 from 0 to 1;");
        due("look up from 63", x.look(0), Check.bits(55, 47, 39, 31, 23, 15, 7));
        // eight around STONE 27 look at it: the first has the second as FOE, each other one the one ahead
        x = Check.told(Check.AROUND);
        due("watchers of eight", x.watchers(27), 255);
        for (int s = 0; s < 8; s++) {
            due("look past 27 of " + s, x.look(s), 1L << 27);
            due("sees the one opposite", x.statue(s, 4), (s + 4) % 8);
        }
        due("under eight LOOKS", x.under(), 1L << 27);
        x.down(7);
        due("watchers of seven", x.watchers(27), 127);
        due("DOWN: look", x.look(7), 0);
        due("DOWN: sees", x.statue(7, 4), -1);
        due("DOWN: OFF", x.statue(7, 3), 0);
        due("DOWN: would turn", x.statue(7, 5), 0);
        due("sees no one now", x.statue(3, 4), -1);
        x.down(1);
        due("watchers without FOES", x.watchers(27), 255 - 128 - 2 - 1 - 4);
        due("its FOE is DOWN: FOE", x.statue(2, 2), 1);
        due("its FOE is DOWN: look", x.look(2), 0);
        due("its FOE is DOWN: OFF", x.statue(2, 3), 0);
        due("its FOE is DOWN: towards", x.towards(2), -1);
    }

    /** Promise 6: the first and the last STONE, and what can be on them. */
    private static void stonesAt() {
        String[] what = {"statue %d %d looks 0;", "wall %d %d;", "fountain %d %d;"};
        int[] due = {0, -10, -11};
        for (int[] size : new int[][] {{2, 2}, {8, 8}, {2, 8}, {8, 2}, {3, 7}}) {
            int many = size[0] * size[1];
            for (int i = 0; i < what.length; i++) {
                for (int k : new int[] {0, size[0] - 1, size[0], many - 1}) {
                    TurnedStatues x = Check.told("stones " + size[0] + " " + size[1] + ";"
                            + String.format(what[i], k % size[0], k / size[0]));
                    for (int other = 0; other < many; other++) {
                        due("stone(" + other + ")", x.stone(other), other == k ? due[i] : -1);
                    }
                    due("stone(-1)", x.stone(-1), -2);
                    due("stone(" + many + ")", x.stone(many), -2);
                    due("stone(64)", x.stone(64), -2);
                    due("walls and fountains", x.count(11), i > 0 ? 1 : 0);
                }
            }
        }
        StringBuilder b = new StringBuilder("stones 8 8;");
        for (int s = 0; s < 8; s++) {
            b.append("statue ").append(s).append(" 7 looks 0;");
        }
        TurnedStatues x = Check.told(b.toString());
        for (int s = 0; s < 8; s++) {
            due("stone of " + s, x.stone(56 + s), s);
            due("statue(" + s + ", 0)", x.statue(s, 0), 56 + s);
        }
        due("statue(8, 0)", x.statue(8, 0), -8);
        due("look(7)", x.look(7), 0);
        due("look(8)", x.look(8), -2);
        due("towards(7)", x.towards(7), -1);
        due("towards(8)", x.towards(8), -2);
        x.down(7);
        due("stone(63) of one that is DOWN", x.stone(63), -1);
        due("statue(7, 0)", x.statue(7, 0), -1);
        due("statue(7, -1)", x.statue(7, -1), -8);
        due("statue(7, 6)", x.statue(7, 6), -8);
        due("statue(0, most)", x.statue(0, Integer.MAX_VALUE), -8);
        due("statue(least, 0)", x.statue(Integer.MIN_VALUE, 0), -8);
    }

    /** Promise 5, what 5: neither in snow nor at rest nor without OFF. */
    private static void wouldTurn() {
        String two = "stones 2 3;statue 0 0 looks 4;statue 0 2 looks 1 at 0;";
        due("off by one", Check.told(two).statue(1, 5), 1);
        due("no FOE", Check.told(two).statue(0, 5), 0);
        due("in snow", Check.told(two + "snow 0 for 1;").statue(1, 5), 0);
        due("ahead of snow", Check.told(two + "snow 1 for 1;").statue(1, 5), 1);
        due("at rest", Check.told(two + "rest : 1 = 1;").statue(1, 5), 0);
        due("no OFF in snow", Check.told(two + "snow 0 for 1;").statue(1, 3), 1);
        TurnedStatues x = Check.told(two + "snow 1 for 1;snow 3 for 1;letter 1 from 0 to 1;");
        int[] turned = {1, 0, 0, 0};
        for (int night = 0; night < turned.length; night++) {
            due("turned on " + night, x.nights(1), turned[night]);
        }
        due("faces", x.statue(1, 5), 0);
    }

    public static void main(String[] args) {
        nothingThere();
        feeding();
        squares();
        anew();
        nothingLeft();
        turns();
        aims();
        edges();
        shapes();
        eachOfEight();
        longLooks();
        stonesAt();
        wouldTurn();
        CHECK.end();
    }
}
