import java.nio.charset.StandardCharsets;

/** Compares answers with what is due, and feeds texts. */
final class Check {
    /** Eight on the STONES around 27 (3 3), from north with the clock, all looking at it; each hates the one ahead, 0 hates 1. */
    static final String AROUND = "stones 8 8;statue 3 2 looks 4;statue 4 2 looks 5 at 0;statue 4 3 looks 6 at 1;"
            + "statue 4 4 looks 7 at 2;statue 3 4 looks 0 at 3;statue 2 4 looks 1 at 4;statue 2 3 looks 2 at 5;statue 2 2 looks 3 at 6;"
            + "letter 0 from 0 to 1;";
    private int wrong;
    private int done;

    void due(String call, long got, long want) {
        done++;
        if (got != want) {
            wrong++;
            System.out.println(call + " answered " + got + ", due is " + want);
        }
    }

    void same(String what, int[] got, int[] want) {
        due(what + ", how many", got.length, want.length);
        for (int i = 0; i < want.length; i++) {
            due(what + " " + i, got[i], want[i]);
        }
    }

    /** NIGHTS go by up to this one. */
    void pass(TurnedStatues x, int night) {
        for (int i = x.count(4); i < night; i += 99) {
            x.nights(Math.min(99, night - i));
        }
        due("NIGHT", x.count(4), night);
    }

    /** Tells a text to a new object; a | in it marks the place of its FAULT. */
    void faulty(int kind, String marked) {
        int place = marked.indexOf('|');
        String text = marked.substring(0, place) + marked.substring(place + 1);
        TurnedStatues x = new TurnedStatues();
        due(marked, tell(x, text), -30 - kind);
        due(marked + " fault(0)", x.fault(0), kind);
        due(marked + " fault(1)", x.fault(1), place);
        due(marked + " keeps STONES", x.count(0), 0);
        due(marked + " keeps LINES", x.count(10), 0);
        due(marked + " empties the tape", x.count(9), 0);
    }

    void fine(int lines, String text) {
        TurnedStatues x = new TurnedStatues();
        due(text, tell(x, text), lines);
        due(text + " fault(0)", x.fault(0), 0);
        due(text + " fault(1)", x.fault(1), -1);
        due(text + " LINES", x.count(10), lines);
    }

    /** Ends the program. */
    void end() {
        System.out.println(done + " answers, " + wrong + " not as due");
        System.exit(wrong == 0 ? 0 : 1);
    }

    static void feed(TurnedStatues x, String text) {
        byte[] bytes = text.getBytes(StandardCharsets.ISO_8859_1);
        int[] ints = new int[5];
        for (int i = 0; i < bytes.length; i += 20) {
            for (int j = 0; j < 5; j++) {
                ints[j] = 0;
                for (int b = i + 4 * j; b < i + 4 * j + 4; b++) {
                    ints[j] = ints[j] << 8 | (b < bytes.length ? bytes[b] & 255 : ' ');
                }
            }
            x.feed(ints[0], ints[1], ints[2], ints[3], ints[4]);
        }
    }

    static int tell(TurnedStatues x, String text) {
        feed(x, text);
        return x.square(text.length());
    }

    static TurnedStatues told(String text) {
        TurnedStatues x = new TurnedStatues();
        int lines = tell(x, text);
        if (lines < 0) {
            throw new IllegalArgumentException(text + ": " + lines + " at " + x.fault(1));
        }
        return x;
    }

    static void tray(TurnedStatues x, int tray, int sort, long... numbers) {
        x.numbers(tray, sort, numbers.length);
        for (int i = 0; i < numbers.length; i++) {
            x.write(tray, i, numbers[i]);
        }
    }

    static long bits(int... all) {
        long bits = 0;
        for (int k : all) {
            bits |= 1L << k;
        }
        return bits;
    }
}
