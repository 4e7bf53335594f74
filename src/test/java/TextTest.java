/** Texts of squares: their faults and where (a | marks the place), their bounds, and the truth of laws of rest. */
public final class TextTest {
    private static final Check CHECK = new Check();
    private static final String SMALL = "stones 2 2;statue 0 0 looks 0;statue 1 1 looks 7 at 0;";

    private static void faulty(int kind, String marked) {
        CHECK.faulty(kind, marked);
    }

    private static void fine(int lines, String text) {
        CHECK.fine(lines, text);
    }

    private static void tokens() {
        faulty(1, "stones 2 2;|$");
        faulty(1, "|Stones 2 2;");
        faulty(1, "stones|\t2 2;");
        faulty(1, "stones 2 2|\r;");
        faulty(1, "stones |1234 2;");
        faulty(1, "stones |0002 2;");
        faulty(1, "stones |99999999999 2;");
        faulty(1, "stones 2 2;|\u00ff");
        faulty(1, "stones 2 2|\u0000;");
        faulty(1, "|1234");
        faulty(1, "rest: 1|.5 = 1;");
        faulty(1, "rest: 1 = |5000;");
        faulty(2, "|stonesx 2 2;");
        faulty(2, "|stonesz 2 2;");
        faulty(2, "|zoo 2 2;");
        faulty(2, "|5;");
        faulty(2, "stones 2 2|x;");
        faulty(2, "stones 2 2|-;");
        fine(1, "stones2 2;");
        fine(1, "\n stones\n2\n\n2 ; \n");
        fine(2, "stones 02 002;rest:1=1;");
        fine(0, "");
        fine(0, "  \n ");
    }

    private static void ends() {
        faulty(2, "stones|");
        faulty(2, "stones 2  |");
        faulty(2, "stones 2 2|");
        faulty(2, "stones 2 2;statue 0 0 looks 0   |");
        faulty(2, "stones 2 2;statue 0 0 looks 0 at|");
        faulty(2, "rest|");
        faulty(2, "rest:|");
        faulty(2, "rest: 1|");
        faulty(2, "rest: 1 = 1|");
        faulty(2, "rest: [1 = 1|");
        faulty(2, "|;");
        faulty(2, "stones 2 2;|;");
    }

    private static void stones() {
        faulty(3, "stones |1 2;");
        faulty(3, "stones |9 2;");
        faulty(3, "stones 2 |1;");
        faulty(3, "stones 2 |9;");
        faulty(2, "stones 2 2 |2;");
        faulty(2, "stones 2 2;|stones 1;");
        faulty(2, "|statue $;");
        faulty(2, "|wall 0 0;");
        faulty(2, "|fountain 0 0;");
        faulty(3, "stones |9 $;");
        fine(1, "stones 8 8;");
    }

    private static void statues() {
        faulty(3, "stones 2 3;statue |2 0 looks 0;");
        faulty(3, "stones 2 3;statue 0 |3 looks 0;");
        faulty(2, "stones 2 3;statue 0 0 |look 0;");
        faulty(3, "stones 2 3;statue 0 0 looks |8;");
        faulty(3, "stones 2 3;statue 0 0 looks 0 at |0;");
        faulty(3, SMALL + "statue 0 1 looks 0 at |2;");
        faulty(2, SMALL + "statue 0 1 looks 0 at |off;");
        faulty(3, SMALL + "statue 1 |1 looks 9;");
        faulty(3, SMALL + "wall 1 |1;");
        faulty(3, SMALL + "wall 1 0;statue 1 |0 looks 1;");
        faulty(3, SMALL + "fountain 1 0;wall 1 |0;");
        faulty(3, SMALL + "wall 1 0;fountain 1 |0;");
        faulty(3, SMALL + "wall |2 0;");
        faulty(3, SMALL + "fountain 0 |2;");
        faulty(2, SMALL + "wall |at 0;");
        StringBuilder eight = new StringBuilder("stones 8 8;");
        for (int s = 0; s < 8; s++) {
            eight.append("statue ").append(s).append(" 0 looks 7;");
        }
        fine(9, eight.toString());
        faulty(4, eight + "|statue 0 1 looks 0;");
        faulty(4, eight + "|statue $");
    }

    private static void letters() {
        faulty(3, "letter 0 from |0 to 1;");
        faulty(3, "peace 0 from |0;");
        faulty(3, SMALL + "letter 1 from |2 to 0;");
        faulty(3, SMALL + "letter 1 from 0 to |2;");
        faulty(3, SMALL + "letter 1 from 1 to |1;");
        faulty(2, SMALL + "letter 1 |to 1 from 0;");
        faulty(2, SMALL + "letter 1 from 1|;");
        faulty(2, SMALL + "peace 1 from 1 |to 0;");
        faulty(3, SMALL + "peace 1 from |2;");
        faulty(1, SMALL + "peace |1000 from 0;");
        String mails = "letter 999 from 0 to 1;peace 0 from 1;";
        String ten = SMALL + mails + mails + mails + mails + mails;
        fine(13, ten);
        faulty(4, ten + "|letter 0 from 9;");
        faulty(4, ten + "|peace 0 from 0;");
        fine(14, ten + "rest : 1 = 1;");
    }

    private static void snows() {
        faulty(3, "snow 0 for |0;");
        faulty(3, "snow 0 for |100;");
        faulty(2, "snow 0 |from 2;");
        faulty(2, "snow |for 2;");
        String four = "snow 0 for 1;snow 999 for 99;snow 1 for 1;snow 0 for 1;";
        fine(4, four);
        faulty(4, four + "|snow 0 for 1;");
    }

    private static void laws() {
        faulty(2, "rest |1 = 1;");
        faulty(2, "rest : |;");
        faulty(2, "rest : 1 |;");
        faulty(2, "rest : 1 = |;");
        faulty(2, "rest : 1 = 1 |= 1;");
        faulty(2, "rest : 1 = 1 |);");
        faulty(2, "rest : 1 = 1 |];");
        faulty(2, "rest : (1 |= 1);");
        faulty(2, "rest : (1 |and 1) = 1;");
        faulty(2, "rest : (|not 1 = 1) = 1;");
        faulty(2, "rest : (|[1 = 1]) = 1;");
        faulty(2, "rest : 1 + |not 1 = 1;");
        faulty(2, "rest : 1 + |[1 = 1];");
        faulty(2, "rest : 1 |and 1 = 1;");
        faulty(2, "rest : 1 = 1 and |;");
        faulty(2, "rest : 1 = 1 or |or 1 = 1;");
        faulty(2, "rest : [1 = 1] |= 1;");
        faulty(2, "rest : [1 = 1] |+ 1;");
        faulty(2, "rest : [1 = 1|;");
        faulty(2, "rest : [1 |] = 1;");
        faulty(2, "rest : [(1|] = 1;");
        faulty(2, "rest : 1 |2 = 1;");
        faulty(2, "rest : |- 1 = 1;");
        faulty(2, "rest : 1 + |* 1 = 1;");
        faulty(2, "rest : |moon = 1;");
        faulty(2, "rest : |nights = 1;");
        faulty(2, "rest : |at = 1;");
        faulty(2, "rest : 1 = (1|;");
        faulty(2, "rest : 1 = (|);");
        faulty(2, "rest : 1 = 1 and [1 = 1 |not 1 = 1];");
        faulty(4, "rest : not not not not not not |not 1 = 1;");
        faulty(4, "rest : not [ not [ not [ |( 1 ) = 1 ] ] ];");
        faulty(4, "rest : [[[[[[|[1 = 1]]]]]]];");
        faulty(4, "rest : 1 = ((((((|(1)))))));");
        faulty(4, "rest : not not not (((1))) = 1 and 2 = 2 and (((((( |( 2;");
        faulty(2, "rest : not [ not [ not ( |[ 1 = 1 ] ) ] ];");
        fine(1, "rest : not [ not [ not [ 1 = 1 ] ] ];");
        fine(1, "rest : not not not (((1))) = (((2))) and not [[[[(1) = (2) or (3) = 3]]]] or not not not not not not 1 = 1;");
        fine(3, "rest:1=1;rest:[night+week*me-dir<off and x>y] or not foes=0;rest:1=2;");
    }

    /** A text leaves nothing behind for the next one of the same object. */
    private static void oneBehindAnother() {
        TurnedStatues x = new TurnedStatues();
        String[] unended = {"rest : [[[[[[;", "rest : 1 = 1 + ((((((;", "rest : not not not 1 = 1 = ;", "rest : 1 = 1 and not 2 * ;",
            "rest : 1 = 1", "stones 8 8;wall 1 1;statue 0 0 looks 3;letter 0 from 0 to 0;", "snow 1 for 1;snow 0 for 5;snow;"};
        for (String text : unended) {
            CHECK.due(text, Check.tell(x, text) < -30 ? 1 : 0, 1);
            CHECK.due("six behind " + text, Check.tell(x, "stones 2 2;statue 0 0 looks 0;statue 1 0 looks 0 at 0;"
                    + "statue 1 1 looks 6 at 0;rest : not not not not not not 2 = me;"), 5);
            CHECK.due("1 turns behind " + text, x.statue(1, 5), 1);
            CHECK.due("2 rests behind " + text, x.statue(2, 5), 0);
            CHECK.due("2 is off behind " + text, x.statue(2, 3), 1);
            CHECK.due("no snow behind " + text, x.count(5), 0);
            CHECK.due("no blocks behind " + text, x.count(11), 0);
            CHECK.due("sums behind " + text, Check.tell(x, "rest : 1 = ((((((1))))));"), 1);
            CHECK.due("no WIDE behind " + text, x.count(0), 0);
            CHECK.due("no HIGH behind " + text, x.count(1), 0);
            CHECK.due("no STONE behind " + text, x.stone(0), -2);
        }
    }

    /** Whether STATUE 1 rests by a law: me 1, dir 2, off 2, x 2, y 5, foes 2, on NIGHT 0. */
    private static void law(String law, boolean holds) {
        TurnedStatues x = Check.told("stones 4 6;statue 1 1 looks 0;statue 2 5 looks 2 at 0;statue 0 5 looks 0 at 1;"
                + "statue 3 5 looks 1 at 1;statue 3 0 looks 1 at 1;rest : " + law + ";");
        x.down(4);
        CHECK.due(law, x.statue(1, 5), holds ? 0 : 1);
    }

    private static void truths() {
        law("1 = 1", true);
        law("1 = 2", false);
        law("1 < 2", true);
        law("2 < 2", false);
        law("2 > 1", true);
        law("2 > 2", false);
        law("me = 1", true);
        law("dir = 2", true);
        law("off = 2", true);
        law("x = 2", true);
        law("y = 5", true);
        law("foes = 2", true);
        law("night = 0", true);
        law("week = 0", true);
        law("2 + 3 * 4 = 14", true);
        law("(2 + 3) * 4 = 20", true);
        law("10 - 2 - 3 = 5", true);
        law("10 - (2 - 3) = 11", true);
        law("2 * (3 + 4) * 5 = 70", true);
        law("999 * 999 < 999 * 999 * 2", true);
        law("999 * 999 * 2 = 999 * 999 * 999", true);
        law("999 * 999 * 2 - 999 * 999 = 999 + 999 + 1", true);
        law("999 * 999 + 999 + 999 + 9 = 999 * 999 + 999 + 999 + 1", true);
        law("999 * 999 + 999 + 999 + 1 > 999 * 999 + 999 + 999", true);
        law("999 * 999 * 999 * 999 = 999 * 999 * 999", true);
        law("0 - 999 * 999 - 999 * 999 - 999 * 999 + 999 * 999 = 0 - 999 - 999 - 1", true);
        law("(0 - 999 * 999) * 999 * 999 < 0", true);
        law("not 1 = 1", false);
        law("not not 1 = 1", true);
        law("not 1 = 2 and 1 = 2", false);
        law("not [1 = 2 and 1 = 2]", true);
        law("not 1 = 1 or 1 = 1", true);
        law("1 = 1 or 1 = 1 and 1 = 2", true);
        law("[1 = 1 or 1 = 1] and 1 = 2", false);
        law("1 = 2 and 1 = 1 or 1 = 1", true);
        law("1 = 2 or 1 = 2 or 1 = 3", false);
        law("1 = 1 and 1 = 1 and 1 = 2", false);
        law("1 = 1; rest : 1 = 2", false);
        law("1 = 2; rest : 1 = 1", true);
    }

    public static void main(String[] args) {
        tokens();
        ends();
        stones();
        statues();
        letters();
        snows();
        laws();
        oneBehindAnother();
        truths();
        CHECK.end();
    }
}
