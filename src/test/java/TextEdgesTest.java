/** "Terms", THE SQUARE: each bound of a text from both sides, and of a law's numbers. */
public final class TextEdgesTest {
    private static final Check CHECK = new Check();
    private static final String TWO = "stones 2 2;statue 0 0 looks 0;statue 1 1 looks 7 at 0;";
    /** Every kind of LINE, each TOKEN with a blank ahead. */
    private static final String ALL = "stones 3 4 ; statue 0 1 looks 7 ; statue 2 3 looks 0 at 0 ; wall 1 1 ; fountain 2 0 ; "
            + "letter 999 from 0 to 1 ; peace 0 from 1 ; snow 999 for 99 ; "
            + "rest : not [ night = 0 and week < 1 ] or me > ( dir + off ) * x - y and foes = 7 ;";

    private static void faulty(int kind, String marked) {
        CHECK.faulty(kind, marked);
    }

    private static void fine(int lines, String text) {
        CHECK.fine(lines, text);
    }

    private static String times(int n, String text) {
        return text.repeat(n);
    }

    private static void wideAndHigh() {
        for (int n = 0; n <= 12; n++) {
            if (n >= 2 && n <= 8) {
                fine(1, "stones " + n + " 2;");
                fine(1, "stones 2 " + n + ";");
                fine(1, "stones " + n + " " + n + ";");
            } else {
                faulty(3, "stones |" + n + " 2;");
                faulty(3, "stones 2 |" + n + ";");
                faulty(3, "stones |" + n + " 1;");
            }
        }
        faulty(3, "stones |999 2;");
        faulty(3, "stones 2 |999;");
        TurnedStatues x = Check.told("stones 8 2;");
        CHECK.due("WIDE", x.count(0), 8);
        CHECK.due("HIGH", x.count(1), 2);
        faulty(2, "stones 8 2;|stones 8 2;");
        faulty(2, TWO + "|stones 2 2;");
    }

    private static void aheadOfStones() {
        faulty(2, "|statue 0 0 looks 0;stones 2 2;");
        faulty(2, "|wall 0 0;stones 2 2;");
        faulty(2, "|fountain 0 0;stones 2 2;");
        faulty(2, "rest : 1 = 1;|wall 0 0;");
        fine(3, "snow 0 for 1;rest : 1 = 1;stones 2 2;");
        // STATUES are told behind stones, so none is told here
        faulty(3, "letter 0 from |0 to 1;stones 2 2;");
        faulty(3, "peace 0 from |0;stones 2 2;");
        fine(1, "snow 0 for 1;");
        fine(1, "rest : 1 = 1;");
        CHECK.due("no STONES without stones", Check.told("rest : 1 = 1;").count(0), 0);
    }

    /** x, y of statues, walls, fountains, in a square that is as wide and as high as can be, and as narrow and low. */
    private static void spots() {
        String[] kinds = {"statue ", "wall ", "fountain "};
        String[] rests = {" looks 0;", ";", ";"};
        for (int kind = 0; kind < kinds.length; kind++) {
            for (int[] size : new int[][] {{2, 2}, {8, 8}, {2, 8}, {8, 2}}) {
                String stones = "stones " + size[0] + " " + size[1] + ";" + kinds[kind];
                fine(2, stones + "0 0" + rests[kind]);
                fine(2, stones + (size[0] - 1) + " 0" + rests[kind]);
                fine(2, stones + "0 " + (size[1] - 1) + rests[kind]);
                fine(2, stones + (size[0] - 1) + " " + (size[1] - 1) + rests[kind]);
                faulty(3, stones + "|" + size[0] + " 0" + rests[kind]);
                faulty(3, stones + "0 |" + size[1] + rests[kind]);
                faulty(3, stones + "|" + size[0] + " " + size[1] + rests[kind]);
                faulty(3, stones + (size[0] - 1) + " |" + size[1] + rests[kind]);
            }
        }
    }

    /** At most one of statues, walls, fountains on a STONE: the first one, the last one, one between. */
    private static void taken() {
        String[] kinds = {"statue ", "wall ", "fountain "};
        String[] rests = {" looks 0;", ";", ";"};
        for (String spot : new String[] {"0 0", "7 7", "7 0", "0 7", "3 4"}) {
            for (int a = 0; a < kinds.length; a++) {
                for (int b = 0; b < kinds.length; b++) {
                    String first = "stones 8 8;" + kinds[a] + spot + rests[a] + kinds[b];
                    faulty(3, first + spot.charAt(0) + " |" + spot.charAt(2) + rests[b]);
                    fine(3, first + "4 4" + rests[b]);
                    fine(3, first + "3 3" + rests[b]);
                }
            }
        }
        // the last STONE of a square that is narrow, of one that is low
        for (String end : new String[] {"stones 2 8;wall 1 7;wall 1 |7;", "stones 8 2;wall 7 1;wall 7 |1;", "stones 2 8;wall 0 7;fountain 0 |7;",
            "stones 8 2;fountain 0 1;wall 0 |1;", "stones 2 3;statue 0 2 looks 0;wall 0 |2;", "stones 3 2;wall 2 0;statue 2 |0 looks 0;"}) {
            faulty(3, end);
        }
        fine(3, "stones 2 8;wall 0 7;wall 1 7;");
        fine(3, "stones 8 2;wall 0 1;wall 2 0;");
        // one LINE that is at fault itself takes nothing; the next text finds its STONE free
        TurnedStatues x = new TurnedStatues();
        CHECK.due("at fault", Check.tell(x, "stones 2 2;wall 1 1;wall 0 0"), -32);
        CHECK.due("free again", Check.tell(x, "stones 2 2;wall 0 0;wall 1 1;"), 3);
    }

    private static void directionsAndFoes() {
        for (int dir = 0; dir <= 7; dir++) {
            fine(2, "stones 2 2;statue 0 0 looks " + dir + ";");
            CHECK.due("told " + dir, Check.told("stones 2 2;statue 0 0 looks " + dir + ";").statue(0, 1), dir);
        }
        faulty(3, "stones 2 2;statue 0 0 looks |8;");
        faulty(3, "stones 2 2;statue 0 0 looks |999;");
        StringBuilder b = new StringBuilder("stones 8 8;");
        for (int s = 0; s < 8; s++) {
            // a FOE is told ahead: 0 to s - 1, and neither itself nor a later one
            for (int foe = 0; foe <= 9; foe++) {
                String line = "statue " + s + " 0 looks 0 at ";
                if (foe < s) {
                    fine(s + 2, b + line + foe + ";");
                    CHECK.due("FOE " + foe, Check.told(b + line + foe + ";").statue(s, 2), foe);
                } else {
                    faulty(3, b + line + "|" + foe + ";");
                }
            }
            b.append("statue ").append(s).append(" 0 looks 0;");
        }
        CHECK.due("no FOE", Check.told(b.toString()).statue(7, 2), -1);
        CHECK.due("eight STATUES", Check.told(b.toString()).count(2), 8);
        faulty(4, b + "|statue 0 1 looks 0;");
        // at its first TOKEN, whatever comes behind, and ahead of all that is wrong with it
        faulty(4, b + "|statue 0 0 looks 9;");
        faulty(4, b + "|statue");
        faulty(4, b + "wall 0 1;|statue 0 1 looks 0;");
    }

    private static void lettersAndPeaces() {
        String eight = "stones 8 8;";
        for (int s = 0; s < 8; s++) {
            eight += "statue " + s + " 0 looks 0;";
        }
        fine(10, eight + "letter 0 from 0 to 7;");
        fine(10, eight + "letter 999 from 7 to 0;");
        fine(10, eight + "peace 999 from 7;");
        fine(10, eight + "peace 0 from 0;");
        faulty(1, eight + "letter |1000 from 0 to 7;");
        faulty(1, eight + "peace |1000 from 0;");
        faulty(3, eight + "letter 0 from |8 to 0;");
        faulty(3, eight + "letter 0 from 7 to |8;");
        faulty(3, eight + "letter 0 from 7 to |7;");
        faulty(3, eight + "letter 0 from 0 to |0;");
        faulty(3, eight + "peace 0 from |8;");
        faulty(3, "stones 2 2;statue 0 0 looks 0;letter 0 from 0 to |0;");
        faulty(3, "stones 2 2;statue 0 0 looks 0;letter 0 from 0 to |1;");
        faulty(3, "stones 2 2;letter 0 from |0 to 1;");
        // told ahead: the STATUE of a later LINE is not told yet
        faulty(3, "stones 2 2;statue 0 0 looks 0;peace 0 from |1;statue 1 0 looks 0;");
        faulty(3, "stones 2 2;statue 0 0 looks 0;letter 0 from 0 to |1;statue 1 0 looks 0;");
        String letter = "letter 1 from 0 to 1;";
        String peace = "peace 1 from 0;";
        for (int letters = 0; letters <= 10; letters++) {
            String ten = TWO + times(letters, letter) + times(10 - letters, peace);
            fine(13, ten);
            CHECK.due("ten told", Check.told(ten).count(6), 10);
            CHECK.due("ten to come", Check.told(ten).count(7), 10);
            faulty(4, ten + "|" + letter);
            faulty(4, ten + "|" + peace);
        }
        faulty(4, TWO + times(10, letter) + "|letter 1000 from 0 to 1;");
        faulty(4, TWO + times(10, peace) + "|peace");
    }

    private static void snows() {
        fine(1, "snow 0 for 1;");
        fine(1, "snow 999 for 99;");
        faulty(1, "snow |1000 for 1;");
        faulty(3, "snow 0 for |0;");
        faulty(3, "snow 0 for |100;");
        faulty(1, "snow 0 for |1000;");
        for (int n = 0; n <= 4; n++) {
            fine(n, times(n, "snow 0 for 1;"));
        }
        faulty(4, times(4, "snow 0 for 1;") + "|snow 0 for 1;");
        faulty(4, times(4, "snow 0 for 1;") + "|snow 0 for 0;");
        faulty(4, times(4, "snow 0 for 1;") + "rest : 1 = 1;|snow");
    }

    /** What each byte is where a LINE may begin. */
    private static void bytes() {
        for (int c = 0; c < 256; c++) {
            TurnedStatues x = new TurnedStatues();
            boolean blank = c == 10 || c == 32;
            boolean begins = c >= 'a' && c <= 'z' || c >= '0' && c <= '9' || ";:+-*()[]=<>".indexOf(c) >= 0;
            int due = blank ? 1 : begins ? -32 : -31;
            CHECK.due("byte " + c, Check.tell(x, "" + (char) c + " stones 2 2;"), due);
            CHECK.due("place of byte " + c, x.fault(1), blank ? -1 : 0);
            // at the end of a text
            CHECK.due("byte " + c + " at the end", Check.tell(x, "stones 2 2;" + (char) c), due);
            CHECK.due("place of byte " + c + " at the end", x.fault(1), blank ? -1 : 11);
            // within a word, a number
            CHECK.due("byte " + c + " in a word", Check.tell(x, "sto" + (char) c + "nes 2 2;"), -32);
            CHECK.due("place of byte " + c + " in a word", x.fault(1), 0);
        }
    }

    private static void tokens() {
        fine(1, "stones 002 008;");
        fine(1, "stones\n\n2 \n 2\n;\n");
        faulty(1, "stones |0002 2;");
        faulty(1, "stones 2 |1000;");
        faulty(1, "stones 2 |12345678901234567890;");
        faulty(1, "stones 2 2;wall |4294967296 0;");
        // a TOKEN goes on as long as it can
        faulty(2, "|stonesstones 2 2;");
        faulty(2, "|stone 2 2;");
        faulty(2, "|sto nes 2 2;");
        faulty(3, "stones |22 2;");
        faulty(2, "stones 2|;2;");
        fine(1, "stones 2 2\n;");
        fine(2, "rest:1<2and(me)>0or not[x=y];snow0for1;");
        faulty(2, "rest:1<2|andme>0;");
        // of one TOKEN the least kind: no number, though it can't stand there or is too large
        faulty(1, "|1000");
        faulty(1, "stones 2 2 |1000;");
        faulty(1, "stones 2 2;statue 0 |1000 looks 0;");
        faulty(1, "rest : |1000 = 1;");
        faulty(1, "rest : 1 |1000 = 1;");
        // it can't stand there, though it is a seventh one
        faulty(2, "rest : (((((( |[ 1");
        faulty(2, "rest : (((((( |not 1");
        faulty(2, "rest : [[[[[[ 1 |( 1");
        faulty(2, "rest : [[[[[[ 1 = 1 |not 1");
        // the first along the text
        faulty(3, "stones |1 $;");
        faulty(2, "stones 2 2;|at $ 1000");
        faulty(3, TWO + "wall |2 1000;");
        faulty(3, TWO + "wall 1 |1 $");
        faulty(4, times(4, "snow 1 for 1;") + "|snow 1000");
    }

    /** The end can't stand ahead of the end of a LINE: its place is the text's length. */
    private static void ends() {
        int lines = 0;
        for (int n = 0; n <= ALL.length(); n++) {
            if (n < ALL.length() && ALL.charAt(n) != ' ') {
                continue;
            }
            String text = ALL.substring(0, n);
            if (text.isEmpty() || text.endsWith(";")) {
                lines += text.isEmpty() ? 0 : 1;
                fine(lines, text);
                fine(lines, text + " \n");
            } else {
                faulty(2, text + "|");
                faulty(2, text + " \n |");
                faulty(1, text + "|$");
                faulty(1, text + " |1234");
            }
        }
        CHECK.due("LINES of all kinds", lines, 9);
    }

    /** Of each TOKEN of all kinds of LINE in its turn: a ; can't stand there but where a ~ marks it, and the next TOKEN then. */
    private static void lineEnds() {
        String marked = ALL.replace("at 0", "~at 0").replace("] or", "] ~or").replace(") *", ") ~*").replace("- y and", "~- y ~and");
        String[] tokens = marked.split(" ");
        for (int t = 0; t < tokens.length; t++) {
            if (tokens[t].equals(";")) {
                continue;
            }
            StringBuilder text = new StringBuilder();
            for (int i = 0; i < tokens.length; i++) {
                boolean here = tokens[t].startsWith("~") ? i == t + 1 : i == t;
                text.append(here ? "|" : "").append(i == t ? ";" : tokens[i].replace("~", "")).append(' ');
            }
            // the first of a LINE: the LINE ahead has its end already
            faulty(2, text.toString());
        }
        faulty(2, "stones 2 2;wall 1 1;wall 1 |;");
        faulty(2, "stones 2 2;wall 1 1;wall 1 |looks 1;");
        faulty(1, "stones 2 2;wall 1 1;wall 1 |1111;");
        faulty(2, "stones 2 2;wall 1 1;wall 1|");
    }

    private static void nineHundred() {
        String small = "stones 2 2;";
        String full = small + times(900 - 11 - 9, " ") + "wall 1 1;";
        CHECK.due("900 bytes", full.length(), 900);
        fine(2, full);
        faulty(2, full.substring(0, 899) + " |");
        faulty(1, full.substring(0, 899) + "|$");
        faulty(1, full.substring(0, 899) + "|\u00ff");
        faulty(2, full.substring(0, 899) + "|x");
        faulty(2, times(896, " ") + "|;x;;");
        fine(0, times(900, " "));
        fine(0, times(900, "\n"));
        faulty(1, "|" + times(900, "1"));
        faulty(2, "|" + times(900, "x"));
        faulty(1, "stones |" + times(893, "0"));
        // 899 TOKENS of a law and one LINE's end: rest : 1 = 1 + 1 + .. ;
        String sum = "rest:0=0" + times(445, "+1") + ";";
        fine(1, sum + " ");
        faulty(2, "rest:0=0" + times(446, "+1") + "|");
        String long1 = "stones 2 2;statue 0 0 looks 0;statue 0 1 looks 4 at 0;";
        for (int due = 0; due < 2; due++) {
            int ones = (900 - long1.length() - 12) / 2;
            String law = "rest:" + (ones + due) + "=0" + times(ones, "+1") + ";";
            TurnedStatues x = Check.told(long1 + law);
            CHECK.due("a long law, off by " + due, x.statue(1, 5), due);
        }
        // 64 walls, and no STONE left
        StringBuilder walls = new StringBuilder("stones 8 8;");
        for (int k = 0; k < 64; k++) {
            walls.append("wall ").append(k % 8).append(' ').append(k / 8).append(';');
        }
        fine(65, walls.toString());
        faulty(3, walls + "wall 7 |7;");
        CHECK.due("64 walls", Check.told(walls.toString()).count(11), 64);
    }

    /** At most six of not [ ( within one another: of each kind, of kinds mixed, and beside one another. */
    private static void nesting() {
        for (int n = 1; n <= 6; n++) {
            fine(1, "rest : " + times(n, "not ") + "1 = 1;");
            fine(1, "rest : " + times(n, "[") + "1 = 1" + times(n, "]") + ";");
            fine(1, "rest : " + times(n, "(") + "1" + times(n, ")") + " = 1;");
            fine(1, "rest : 1 = " + times(n, "(") + "1" + times(n, ")") + ";");
            fine(1, "rest : " + times(n, "[") + times(6 - n, "(") + "1" + times(6 - n, ")") + " = 1" + times(n, "]") + ";");
            fine(1, "rest : " + times(n, "not ") + times(6 - n, "(") + "1" + times(6 - n, ")") + " = 1;");
            fine(1, "rest : " + times(n, "not ") + times(6 - n, "[") + "1 = 1" + times(6 - n, "]") + ";");
            faulty(4, "rest : " + times(n, "not ") + times(6 - n, "[") + "|( 1");
            faulty(4, "rest : " + times(n, "not ") + times(6 - n, "[") + "|[ 1");
            faulty(4, "rest : " + times(n, "[") + times(6 - n, "not ") + "|not 1");
            faulty(4, "rest : " + times(n, "[") + times(6 - n, "(") + "|( 1");
            faulty(4, "rest : " + times(n, "not ") + times(6 - n, "(") + "|( 1");
            faulty(4, "rest : " + times(n, "not ") + "1 = " + times(6 - n, "(") + "|( 1");
        }
        // what is closed counts no more: a ] or ) closes one, the end of its UNIT all nots of it
        String sixSums = "((((((1))))))";
        String sixTruths = "[[[[[[1 = 1]]]]]]";
        String sixNots = "not not not not not not 1 = 1";
        fine(1, "rest : " + sixSums + " = " + sixSums + " + " + sixSums + " * " + sixSums + ";");
        fine(1, "rest : " + sixTruths + " and " + sixTruths + " or " + sixTruths + ";");
        fine(1, "rest : " + sixNots + " and " + sixNots + " or " + sixNots + ";");
        fine(1, "rest : [" + sixNots.substring(4) + "] and " + sixTruths + " or not " + sixSums.substring(1, 12) + " = 1;");
        fine(1, "rest : not not not not not [1 = 1] and not not not not not [1 = 1];");
        fine(1, "rest : [[[[[[1 = 1] or [1 = 1]] and [1 = 1]] or [1 = 1]]] or [[1 = 1]]];");
        fine(1, "rest : (((((1) + (1)) * (1)) - ((1)))) < (1);");
        // behind = < > there is a SUM, no UNIT
        for (String sign : new String[] {"=", "<", ">"}) {
            faulty(2, "rest : 1 " + sign + " |not 1 = 1;");
            faulty(2, "rest : 1 " + sign + " |[ 1 ] ;");
            faulty(2, "rest : 1 " + sign + " |" + sign + " 1;");
            faulty(2, "rest : 1 " + sign + " |and 1 = 1;");
            fine(1, "rest : 1 " + sign + " (1);");
        }
        for (String sign : new String[] {"+", "-", "*"}) {
            faulty(2, "rest : 1 " + sign + " |not 1 = 1;");
            faulty(2, "rest : 1 " + sign + " |[ 1 ] = 1;");
            faulty(2, "rest : 1 " + sign + " |" + sign + " 1;");
            faulty(2, "rest : |" + sign + " 1 = 1;");
            faulty(2, "rest : 1 = (|" + sign + " 1);");
            faulty(2, "rest : 1 " + sign + " |= 1;");
            fine(1, "rest : 1 " + sign + " (1) = 1;");
        }
        for (String word : new String[] {"and", "or"}) {
            faulty(2, "rest : |" + word + " 1 = 1;");
            faulty(2, "rest : 1 = 1 " + word + " |" + word + " 1 = 1;");
            faulty(2, "rest : 1 = 1 " + word + " |;");
            faulty(2, "rest : 1 |" + word + " 1 = 1;");
            faulty(2, "rest : (1 |" + word + " 1) = 1;");
            faulty(2, "rest : [1 = 1 " + word + " |];");
            fine(1, "rest : 1 = 1 " + word + " not [1 = 1 " + word + " 1 = 1];");
        }
        // a not is open over both sums of its UNIT
        faulty(4, "rest : not (1) = (((((|(1)))))) ;");
        fine(1, "rest : not (1) = (((((1)))));");
        faulty(4, "rest : not not not not not [1 = 1 and |[1 = 1]];");
        fine(1, "rest : not not not not [1 = 1 and [1 = 1]];");
        faulty(4, "rest : [not not not not not 1 = 1 and not not not not not |not 1 = 1];");
    }

    /** Later ones of rest count in place of earlier ones, whole. */
    private static void laterLaws() {
        String two = "stones 2 3;statue 0 0 looks 0;statue 0 2 looks 2 at 0;";
        CHECK.due("without a law", Check.told(two).statue(1, 5), 1);
        CHECK.due("one law", Check.told(two + "rest : 1 = 1;").statue(1, 5), 0);
        CHECK.due("the later one", Check.told(two + "rest : 1 = 1;rest : 1 = 2;").statue(1, 5), 1);
        CHECK.due("the last one", Check.told(two + "rest : 1 = 2;rest : 1 = 2;rest : 1 = 1;").statue(1, 5), 0);
        CHECK.due("a longer one ahead", Check.told(two + "rest : 1 = 1 or 2 = 2 and 3 = 3;rest : 1 > 2;").statue(1, 5), 1);
        CHECK.due("ahead of stones", Check.told("rest : me = 1;" + two).statue(1, 5), 0);
    }

    /** Whether STATUE 1 rests on NIGHT 0: at x 7, y 1, looks 6, off 2 (its FOE is north of it), foes 6. */
    private static void law(String law, boolean holds) {
        StringBuilder b = new StringBuilder("stones 8 8;statue 7 0 looks 0;statue 7 1 looks 6 at 0;");
        for (int s = 2; s < 8; s++) {
            b.append("statue ").append(s - 2).append(" 7 looks 0 at 1;");
        }
        CHECK.due(law, Check.told(b + "rest : " + law + ";").statue(1, 5), holds ? 0 : 1);
    }

    /** + - * are kept from -1,000,000 to 1,000,000, each: 998001 is 999 * 999. */
    private static void kept() {
        String million = "(999 * 999 + 999 + 999 + 1)";
        String less = "(0 - " + million + ")";
        law(million + " - 999 - 999 - 1 = 999 * 999", true);
        law(million + " + 1 = " + million, true);
        law(million + " + 999 = " + million, true);
        law(million + " - 1 < " + million, true);
        law(million + " - 1 + 1 = " + million, true);
        law(million + " - 1 + 2 = " + million, true);
        law(million + " - 1 + 2 - 1 < " + million, true);
        law(million + " + 1 - 1 = " + million, false);
        law(million + " * 1 = " + million, true);
        law(million + " * 2 = " + million, true);
        law(million + " * 2 - 1 = " + million + " - 1", true);
        law(million + " * " + million + " = " + million, true);
        law(million + " * " + million + " > 0", true);
        law(less + " + 1 > " + less, true);
        law(less + " - 1 = " + less, true);
        law(less + " - 1 + 1 = " + less, false);
        law(less + " - 999 = " + less, true);
        law(less + " + 0 - 0 = " + less, true);
        law(less + " * 1 = " + less, true);
        law(less + " * 2 = " + less, true);
        law(less + " * 2 + 1 = " + less + " + 1", true);
        law(less + " * " + million + " = " + less, true);
        law(less + " * " + less + " = " + million, true);
        law(less + " + " + less + " = " + less, true);
        law(million + " + " + million + " = " + million, true);
        law(million + " - " + less + " = " + million, true);
        law(less + " - " + million + " = " + less, true);
        law(million + " + " + less + " = 0", true);
        law("0 - 1 < 0", true);
        law("0 - 999 * 999 - 999 - 999 - 1 = " + less, true);
        law("0 - 999 * 999 - 999 - 999 - 0 = " + less, false);
        law("0 - 999 * 999 - 999 - 999 - 2 = " + less, true);
        law("0 = 0 * 999", true);
        law("0 - 0 = 000", true);
    }

    /** Six within one another, each with an or, and, +, * that waits for it: the innermost is 8, then 18, 37, 112. */
    private static void deepest() {
        String open = "1 = 2 or 1 = 1 and [1 = 2 or 1 = 1 and [1 = 2 or 1 = 1 and [1 = 2 or 1 = 1 and ";
        String sum = " = 1 + 3 * (1 + 2 * (2 + 2 * (3 + 1 * 5)))]]]";
        law(open + "112" + sum, true);
        law(open + "111" + sum, false);
        law(open + "113" + sum, false);
        law("not not not 112" + sum.substring(0, sum.length() - 3), false);
        law("not not not 111" + sum.substring(0, sum.length() - 3), true);
        law("112 - ((((((112)))))) = 0 and not not not not not not 1 = 1", true);
    }

    private static void asked() {
        law("night = 0 and week = 0", true);
        law("me = 1 and dir = 6 and off = 2 and x = 7 and y = 1 and foes = 6", true);
        law("me < 1 or me > 1 or dir < 6 or dir > 6 or off < 2 or off > 2", false);
        law("x < 7 or x > 7 or y < 1 or y > 1 or foes < 6 or foes > 6", false);
        law("night > 0 or week > 0", false);
    }

    /** STATUE 1 of a square in which it rests on all NIGHTS but those that are told, as it is on one NIGHT. */
    private static int turnsOn(int night, String nights) {
        TurnedStatues x = Check.told("stones 2 3;statue 0 0 looks 0;statue 0 2 looks 4 at 0;rest : not " + nights
                + " or night < " + night / 10 + " * 10 + " + night % 10 + ";");
        for (int gone = 0; gone < night; gone += 50) {
            x.nights(Math.min(50, night - gone));
        }
        return x.statue(1, 5);
    }

    /** NIGHT, and NIGHT modulo 7, as NIGHTS go by. */
    private static void nightsAndWeeks() {
        for (int night : new int[] {0, 1, 5, 6, 7, 8, 13, 14, 15, 99, 100, 699, 700, 999}) {
            CHECK.due("NIGHT " + night, turnsOn(night, "night = " + night), 1);
            CHECK.due("above NIGHT " + night, turnsOn(night, "night > " + night), 0);
            for (int day = 0; day <= 7; day++) {
                CHECK.due("week " + day + " on NIGHT " + night, turnsOn(night, "week = " + day), night % 7 == day ? 1 : 0);
            }
        }
        CHECK.due("NIGHT 1000", turnsOn(1000, "night = 999 + 1"), 1);
        CHECK.due("NIGHT 1000's day", turnsOn(1000, "week = 6"), 1);
    }

    /** me, dir, off, x, y, foes at their least and their most. */
    private static void leastAndMost() {
        StringBuilder b = new StringBuilder("stones 8 8;statue 0 0 looks 3;");
        for (int s = 1; s < 7; s++) {
            b.append("statue ").append(s).append(" 0 looks 7 at 0;");
        }
        b.append("statue 7 7 looks 3 at 0;letter 0 from 0 to 7;");
        // STATUE 7 on 7 7 should look 7, and looks 3: off 4; STATUE 0 should look 3 and does
        String[] laws = {"me = 7", "x = 7 and y = 7", "dir = 3 and off = 4", "foes = 1"};
        for (String law : laws) {
            CHECK.due("7: " + law, Check.told(b + "rest : " + law + ";").statue(7, 5), 0);
            CHECK.due("7: not " + law, Check.told(b + "rest : not [" + law + "];").statue(7, 5), 1);
        }
        String other = "stones 8 8;statue 0 0 looks 2;statue 7 7 looks 7 at 0;statue 6 7 looks 6 at 0;letter 0 from 0 to 1;";
        String[] zeros = {"me = 0", "x = 0 and y = 0", "dir = 2 and off = 1", "foes = 2"};
        for (String law : zeros) {
            CHECK.due("0: " + law, Check.told(other + "rest : " + law + ";").statue(0, 5), 0);
            CHECK.due("0: not " + law, Check.told(other + "rest : not [" + law + "];").statue(0, 5), 1);
        }
        CHECK.due("2: foes = 0", Check.told(other + "rest : foes = 0;").statue(2, 5), 0);
        CHECK.due("2: dir = 6", Check.told(other + "rest : dir = 6 and off = 1;").statue(2, 5), 0);
        // seven foes; one that is DOWN counts no more, though it keeps its FOE
        StringBuilder seven = new StringBuilder("stones 8 8;statue 0 0 looks 7;");
        for (int s = 1; s < 8; s++) {
            seven.append("statue ").append(s).append(" 7 looks 7 at 0;");
        }
        seven.append("letter 0 from 0 to 1;rest : foes = ");
        CHECK.due("seven foes", Check.told(seven + "7;").statue(0, 5), 0);
        CHECK.due("not six", Check.told(seven + "6;").statue(0, 5), 1);
        TurnedStatues x = Check.told(seven + "6;");
        x.down(7);
        CHECK.due("six that stand", x.statue(0, 5), 0);
        x.peace(6);
        CHECK.due("five", x.statue(0, 5), 1);
    }

    public static void main(String[] args) {
        wideAndHigh();
        aheadOfStones();
        spots();
        taken();
        directionsAndFoes();
        lettersAndPeaces();
        snows();
        bytes();
        tokens();
        ends();
        lineEnds();
        nineHundred();
        nesting();
        laterLaws();
        kept();
        deepest();
        asked();
        nightsAndWeeks();
        leastAndMost();
        CHECK.end();
    }
}
