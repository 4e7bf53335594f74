/** Statues on a square of stones that turn by night to face their foes; ../shared/DOC.md says what each call answers. */
public final class TurnedStatues {
    public static final int NONE = -1;

    private static final int MOST_STATUES = 8;
    private static final int MOST_STONES = 64;
    private static final int MOST_LETTERS = 10;
    private static final int MOST_SNOWS = 4;
    private static final int MOST_NESTED = 6;
    private static final int MOST_UNDONE = 10;
    private static final int TAPE_BYTES = 900;
    private static final int FED_BYTES = 20;
    private static final int TRAYS = 4;
    private static final int TRAY_NUMBERS = 40;
    private static final int IMAGES = 2;
    private static final int LAST_NIGHT_SEEN = 200;
    private static final int LAST_NIGHT_ASKED = 60;
    private static final int LONGEST_WAY = 40;
    private static final int LONGEST_COUNTED_WAY = 20;

    private static final int NO_SUCH = -2;
    private static final int NO_SUCH_NUMBER = -3;
    private static final int TOO_MANY = -4;
    private static final int NOT_NOW = -5;
    private static final int MISSING = -6;
    private static final int NOT_IN_TRAY = -7;
    private static final int NOT_ASKABLE = -8;
    private static final int UNLIKE = -9;
    private static final int WALL = -10;
    private static final int FOUNTAIN = -11;
    private static final int WHY_NOT = -10;
    private static final int FAULTY_TEXT = -30;

    private static final int NO_TOKEN = 1;
    private static final int MISPLACED = 2;
    private static final int OUT_OF_BOUNDS = 3;
    private static final int ONE_TOO_MANY = 4;

    // What a TOKEN is: one of these, a sign's own character, or a word's place among WORDS.
    private static final int END = 0;
    private static final int BAD = 1;
    private static final int NUMBER = 2;
    private static final int UNKNOWN_WORD = 199;
    private static final int STONES = 200;
    private static final int STATUE = 201;
    private static final int A_WALL = 202;
    private static final int A_FOUNTAIN = 203;
    private static final int LETTER = 204;
    private static final int PEACE = 205;
    private static final int SNOW = 206;
    private static final int REST = 207;
    private static final int LOOKS = 208;
    private static final int AT = 209;
    private static final int FROM = 210;
    private static final int TO = 211;
    private static final int FOR = 212;
    private static final int OR = 213;
    private static final int AND = 214;
    private static final int NOT = 215;
    private static final int NIGHT = 216;
    private static final int FOES = 223;
    private static final String WORDS = "stones statue wall fountain letter peace snow rest looks at from to for or and not night week me dir off x y foes ";
    private static final String SIGNS = ";:+-*()[]=<>";

    // How far one STONE along a DIRECTION is, in x and in y.
    private static final int[] ALONG_X = {0, 1, 1, 1, 0, -1, -1, -1};
    private static final int[] ALONG_Y = {-1, -1, 0, 1, 1, 1, 0, -1};

    private final Square told = new Square();
    private final Stand now = new Stand();
    private final Stand before = new Stand();
    private final Stand trial = new Stand();
    private final Past past = new Past();
    private final Search search = new Search();
    private final Walks walks = new Walks();
    private final Tray[] trays = new Tray[TRAYS];
    private final Square[] imageSquares = new Square[IMAGES];
    private final Stand[] imageStands = new Stand[IMAGES];
    private final boolean[] imageMade = new boolean[IMAGES];
    private final Reader reader = new Reader();
    private int taped;
    private int latestFault;
    private int latestPlace = NONE;

    public TurnedStatues() {
        for (int i = 0; i < trays.length; i++) {
            trays[i] = new Tray();
        }
        for (int i = 0; i < imageSquares.length && i < imageStands.length; i++) {
            imageSquares[i] = new Square();
            imageStands[i] = new Stand();
        }
    }

    // ---- the square

    public int feed(int a, int b, int c, int d, int e) {
        if (taped < 0 || taped + FED_BYTES > TAPE_BYTES) {
            return NOT_NOW;
        }
        tapeInt(a);
        tapeInt(b);
        tapeInt(c);
        tapeInt(d);
        tapeInt(e);
        return taped;
    }

    private void tapeInt(int four) {
        byte[] tape = reader.tokens.tape;
        for (int shift = 24; shift >= 0; shift -= 8) {
            if (taped >= 0 && taped < tape.length) {
                tape[taped] = (byte) (four >>> shift);
                taped++;
            }
        }
    }

    public int square(int n) {
        if (n < 0 || n > taped) {
            return NO_SUCH_NUMBER;
        }
        taped = 0;
        latestFault = reader.readText(n);
        latestPlace = reader.faultPlace();
        if (latestFault != 0) {
            return FAULTY_TEXT - latestFault;
        }
        told.become(reader.square);
        now.become(reader.stand);
        past.forget();
        return told.lines;
    }

    public int fault(int what) {
        if (what == 0) {
            return latestFault;
        }
        return what == 1 ? latestPlace : NONE;
    }

    public int statue(int s, int what) {
        if (!told.hasStatue(s) || what < 0 || what > 5) {
            return NOT_ASKABLE;
        }
        switch (what) {
            case 0:
                return now.place[s];
            case 1:
                return now.dir[s];
            case 2:
                return now.foe[s];
            case 3:
                return told.offOf(now, s);
            case 4:
                return told.seenBy(now, s);
            default:
                return Course.turnOf(told, now, s) != 0 && !told.snowLies(now.night) ? 1 : 0;
        }
    }

    public int stone(int k) {
        return told.hasStone(k) ? told.standingOn(now, k) : NO_SUCH;
    }

    public long look(int s) {
        return told.hasStatue(s) ? told.lookOf(now, s, told.takenBits(now)) : NO_SUCH;
    }

    public long under() {
        return told.underBits(now);
    }

    public int watchers(int k) {
        return told.hasStone(k) ? told.watcherBits(now, k) : NO_SUCH;
    }

    public int towards(int s) {
        return told.hasStatue(s) ? told.towardsFoe(now, s) : NO_SUCH;
    }

    // ---- deeds

    public int nights(int n) {
        if (n < 1 || n > 99) {
            return NO_SUCH_NUMBER;
        }
        past.keep(now);
        int turned = 0;
        for (int i = 0; i < n; i++) {
            turned += Integer.bitCount(Course.passNight(told, now));
        }
        return turned;
    }

    public int letter(int a, int b) {
        int why = Course.whyNoLetter(told, now, a, b);
        if (why != 0) {
            return WHY_NOT - why;
        }
        int had = now.foe[a];
        past.keep(now);
        now.foe[a] = b;
        return had;
    }

    public int peace(int s) {
        int why = Course.whyNotStanding(told, now, s);
        if (why != 0) {
            return WHY_NOT - why;
        }
        int had = now.foe[s];
        past.keep(now);
        now.foe[s] = NONE;
        return had;
    }

    public int down(int s) {
        int why = Course.whyNotStanding(told, now, s);
        if (why != 0) {
            return WHY_NOT - why;
        }
        int had = now.place[s];
        past.keep(now);
        now.place[s] = NONE;
        return had;
    }

    public int up(int s, int k) {
        int why = Course.whyNotUp(told, now, s, k);
        if (why != 0) {
            return WHY_NOT - why;
        }
        past.keep(now);
        now.place[s] = k;
        return Long.bitCount(told.underBits(now));
    }

    public int undo(int n) {
        if (n < 1 || n > past.held) {
            return NO_SUCH_NUMBER;
        }
        past.bringBack(n, now);
        return past.held;
    }

    public int judge(int tray, int what) {
        Tray deeds = trayAt(tray);
        if (deeds == null || what < 0 || what > 3) {
            return NO_SUCH;
        }
        if (!deeds.there) {
            return MISSING;
        }
        trial.become(now);
        int why = 0;
        int turned = 0;
        int i = 0;
        for (; i < deeds.size; i++) {
            why = Course.whyNot(told, trial, deeds.get(i));
            if (why != 0) {
                break;
            }
            turned += Course.doDeed(told, trial, deeds.get(i));
        }
        switch (what) {
            case 0:
                return why == 0 ? NONE : i;
            case 1:
                return why;
            case 2:
                return turned;
            default:
                return Long.bitCount(told.underBits(trial));
        }
    }

    public int perform(int tray) {
        Tray deeds = trayAt(tray);
        if (deeds == null) {
            return NO_SUCH;
        }
        if (!deeds.there) {
            return MISSING;
        }
        before.become(now);
        int done = 0;
        for (int i = 0; i < deeds.size && Course.whyNot(told, now, deeds.get(i)) == 0; i++) {
            Course.doDeed(told, now, deeds.get(i));
            done++;
        }
        if (done > 0) {
            past.keep(before);
        }
        return done;
    }

    public int month(int seed, int times) {
        if (times < 1 || times > 60) {
            return NO_SUCH_NUMBER;
        }
        int statues = told.statues;
        if (statues < 1) {
            return NOT_NOW;
        }
        before.become(now);
        int done = 0;
        int x = seed;
        for (int i = 0; i < times; i++) {
            x = afterDraw(x);
            int kind = (x >>> 16) % 4;
            long deed = NONE;
            if (kind == 2) {
                x = afterDraw(x);
                int writer = (x >>> 16) % statues;
                x = afterDraw(x);
                deed = 10 * writer + (x >>> 16) % statues;
            } else if (kind == 3) {
                x = afterDraw(x);
                deed = 100 + (x >>> 16) % statues;
            }
            if (Course.whyNot(told, now, deed) == 0) {
                Course.doDeed(told, now, deed);
                done++;
            }
        }
        if (done > 0) {
            past.keep(before);
        }
        return done;
    }

    private static int afterDraw(int x) {
        return 1103515245 * x + 12345;
    }

    // ---- still

    public int still() {
        trial.become(now);
        int least = 0;
        for (int n = 0; n <= LAST_NIGHT_SEEN; n++) {
            int turned = Course.passNight(told, trial);
            if (turned != 0 || told.writtenFor(trial.night)) {
                least = n + 1;
            }
        }
        return least > LAST_NIGHT_SEEN ? NONE : least;
    }

    public int later(int s, int n, int what) {
        if (!told.hasStatue(s) || n < 0 || n > LAST_NIGHT_SEEN || what < 0 || what > 2) {
            return NOT_ASKABLE;
        }
        trial.become(now);
        for (int i = 0; i < n; i++) {
            Course.passNight(told, trial);
        }
        if (what == 0) {
            return trial.dir[s];
        }
        return what == 1 ? trial.foe[s] : told.seenBy(trial, s);
    }

    public int facing(int s) {
        if (!told.hasStatue(s)) {
            return NO_SUCH;
        }
        trial.become(now);
        for (int n = 0; n <= LAST_NIGHT_SEEN; n++) {
            if (told.offOf(trial, s) == 0) {
                return n;
            }
            Course.passNight(told, trial);
        }
        return NONE;
    }

    public int pair() {
        for (int a = 0; a < told.statues; a++) {
            int b = told.seenBy(now, a);
            if (b > a && told.seenBy(now, b) == a) {
                return 10 * a + b;
            }
        }
        return NONE;
    }

    public int rings() {
        int bits = 0;
        for (int s = 0; s < told.statues; s++) {
            if (now.ringLength(s) > 0) {
                bits |= 1 << s;
            }
        }
        return bits;
    }

    public int ringOf(int s) {
        return told.hasStatue(s) ? now.ringLength(s) : NO_SUCH;
    }

    public int calm() {
        int bits = 0;
        for (int s = 0; s < told.statues; s++) {
            if (now.stands(s) && !now.hates(s)) {
                bits |= 1 << s;
            }
        }
        return bits;
    }

    // ---- ways

    public int way(int from, int to) {
        if (!told.hasStone(from) || !told.hasStone(to)) {
            return NO_SUCH;
        }
        if (told.isTaken(now, from) || told.isTaken(now, to)) {
            return NOT_NOW;
        }
        walks.foresee(told, now);
        return walks.fewestNights(told, from, to);
    }

    public long reach(int from, int n) {
        if (!told.hasStone(from)) {
            return NO_SUCH;
        }
        if (n < 0 || n > LONGEST_WAY) {
            return NO_SUCH_NUMBER;
        }
        if (told.isTaken(now, from)) {
            return NOT_NOW;
        }
        walks.foresee(told, now);
        return walks.reachedIn(told, from, n);
    }

    public long ways(int from, int to, int n) {
        if (!told.hasStone(from) || !told.hasStone(to)) {
            return NO_SUCH;
        }
        if (n < 0 || n > LONGEST_COUNTED_WAY) {
            return NO_SUCH_NUMBER;
        }
        if (told.isTaken(now, from) || told.isTaken(now, to)) {
            return NOT_NOW;
        }
        walks.foresee(told, now);
        return walks.howMany(told, from, to, n);
    }

    public int step(int from, int to, int k) {
        if (!told.hasStone(from) || !told.hasStone(to)) {
            return NO_SUCH;
        }
        if (k < 0) {
            return NO_SUCH_NUMBER;
        }
        if (told.isTaken(now, from) || told.isTaken(now, to)) {
            return NOT_NOW;
        }
        walks.foresee(told, now);
        int fewest = walks.fewestNights(told, from, to);
        return fewest == NONE || k > fewest ? NONE : walks.placeBehind(told, from, to, fewest, k);
    }

    // ---- free

    public int freeIn(int k) {
        if (!told.hasStone(k)) {
            return NO_SUCH;
        }
        trial.become(now);
        for (int n = 0; n <= LAST_NIGHT_SEEN; n++) {
            if (told.watcherBits(trial, k) == 0) {
                return n;
            }
            Course.passNight(told, trial);
        }
        return NONE;
    }

    public int takeDown(int k, int what) {
        if (!told.hasStone(k) || what < 0 || what > 1) {
            return NO_SUCH;
        }
        int which = fewestToTakeDown(k);
        if (which == NONE) {
            return NONE;
        }
        return what == 0 ? Integer.bitCount(which) : which;
    }

    private int fewestToTakeDown(int k) {
        int best = NONE;
        int fewest = MOST_STATUES + 1;
        for (int which = 0; which < 1 << told.statues; which++) {
            if (Integer.bitCount(which) < fewest && freeWithout(k, which)) {
                best = which;
                fewest = Integer.bitCount(which);
            }
        }
        return best;
    }

    private boolean freeWithout(int k, int which) {
        trial.become(now);
        for (int s = 0; s < told.statues; s++) {
            if ((which >> s & 1) != 0) {
                if (!trial.stands(s) || trial.place[s] == k) {
                    return false;
                }
                trial.place[s] = NONE;
            }
        }
        return told.watcherBits(trial, k) == 0;
    }

    public int reconcile(int k, int what) {
        if (!told.hasStone(k) || what < 0 || what > 1) {
            return NO_SUCH;
        }
        // PEACE ends just the LOOK of the one it is for, so all who watch the STONE are needed, and no other.
        int which = told.watcherBits(now, k);
        return what == 0 ? Integer.bitCount(which) : which;
    }

    public long blocks(int k) {
        if (!told.hasStone(k)) {
            return NO_SUCH;
        }
        int watching = told.watcherBits(now, k);
        if (watching == 0) {
            return 0;
        }
        // With the STONE itself taken, a watcher's LOOK is what lies ahead of the STONE.
        long taken = told.takenBits(now) | 1L << k;
        long between = -1L;
        for (int s = 0; s < told.statues; s++) {
            if ((watching >> s & 1) != 0) {
                between &= told.lookOf(now, s, taken);
            }
        }
        return between;
    }

    public int frees(int k, int n, int what) {
        if (!told.hasStone(k) || what < 0 || what > 1) {
            return NO_SUCH;
        }
        if (n < 0 || n > LAST_NIGHT_ASKED) {
            return NO_SUCH_NUMBER;
        }
        search.gatherFreeing(told, now, k, n);
        if (what == 0) {
            return search.found;
        }
        return search.found == 0 ? NONE : 10 * search.firstWriter + search.firstReader;
    }

    // ---- who wrote

    public int seen(int tray, int n) {
        Tray dirs = trayAt(tray);
        if (dirs == null) {
            return NO_SUCH;
        }
        int refusal = whyNotSeen(dirs, n);
        if (refusal != 0) {
            return refusal;
        }
        search.gatherSeen(told, now, dirs, n);
        return search.found;
    }

    public int writer(int tray, int n, int what) {
        Tray dirs = trayAt(tray);
        if (dirs == null || what < 0 || what > 1) {
            return NO_SUCH;
        }
        int refusal = whyNotSeen(dirs, n);
        if (refusal != 0) {
            return refusal;
        }
        search.gatherSeen(told, now, dirs, n);
        if (search.found == 0) {
            return UNLIKE;
        }
        if (what == 0) {
            return search.sameWriter ? search.firstWriter : UNLIKE;
        }
        return search.sameReader ? search.firstReader : UNLIKE;
    }

    private int whyNotSeen(Tray dirs, int n) {
        if (!dirs.there) {
            return MISSING;
        }
        if (dirs.size != told.statues) {
            return TOO_MANY;
        }
        for (int i = 0; i < dirs.size; i++) {
            if (dirs.get(i) < NONE || dirs.get(i) > 7) {
                return NO_SUCH_NUMBER;
            }
        }
        return n < 0 || n > LAST_NIGHT_ASKED ? NO_SUCH_NUMBER : 0;
    }

    public int turners(int n) {
        if (n < 0 || n > LAST_NIGHT_ASKED) {
            return NO_SUCH_NUMBER;
        }
        trial.become(now);
        int bits = 0;
        for (int i = 0; i < n; i++) {
            bits |= Course.passNight(told, trial);
        }
        return bits;
    }

    // ---- trays, images

    private Tray trayAt(int tray) {
        return tray >= 0 && tray < trays.length ? trays[tray] : null;
    }

    public int numbers(int tray, int sort, int n) {
        Tray filled = trayAt(tray);
        if (filled == null || sort < 0 || sort > 3) {
            return NO_SUCH;
        }
        if (n < 0 || n > TRAY_NUMBERS) {
            return NO_SUCH_NUMBER;
        }
        filled.renew(sort, n);
        return 0;
    }

    public long write(int tray, int i, long v) {
        Tray written = trayAt(tray);
        if (written == null) {
            return NO_SUCH;
        }
        if (!written.there) {
            return MISSING;
        }
        if (i < 0 || i >= written.size) {
            return NOT_IN_TRAY;
        }
        written.put(i, v);
        return written.get(i);
    }

    public int copy(int tray) {
        Tray filled = trayAt(tray);
        if (filled == null) {
            return NO_SUCH;
        }
        if (!filled.there) {
            return MISSING;
        }
        int many = Math.min(filled.size, told.statues);
        for (int s = 0; s < many && s < MOST_STATUES; s++) {
            filled.put(s, now.dir[s]);
        }
        return many;
    }

    public int image(int i) {
        if (!isImage(i)) {
            return NO_SUCH;
        }
        imageSquares[i].become(told);
        imageStands[i].become(now);
        imageMade[i] = true;
        return 0;
    }

    public int restore(int i) {
        if (!isImage(i)) {
            return NO_SUCH;
        }
        if (!imageMade[i]) {
            return NOT_NOW;
        }
        told.become(imageSquares[i]);
        now.become(imageStands[i]);
        past.forget();
        return 0;
    }

    private boolean isImage(int i) {
        return i >= 0 && i < IMAGES && imageSquares[i] != null && imageStands[i] != null;
    }

    public int count(int what) {
        switch (what) {
            case 0:
                return told.wide;
            case 1:
                return told.high;
            case 2:
                return told.statues;
            case 3:
                return now.howManyStand();
            case 4:
                return now.night;
            case 5:
                return told.snowLies(now.night) ? 1 : 0;
            case 6:
                return told.letters;
            case 7:
                return told.writtenBehind(now.night);
            case 8:
                return past.held;
            case 9:
                return taped;
            case 10:
                return told.lines;
            case 11:
                return Long.bitCount(told.walls | told.fountains);
            default:
                return NONE;
        }
    }

    /** Where STATUES are, how they look, whom they hate, and the NIGHT: all that deeds change and undoing brings back. */
    private static final class Stand {
        final int[] place = new int[MOST_STATUES];
        final int[] dir = new int[MOST_STATUES];
        final int[] foe = new int[MOST_STATUES];
        int night;

        Stand() {
            for (int s = 0; s < MOST_STATUES; s++) {
                place[s] = NONE;
                foe[s] = NONE;
            }
        }

        void clear() {
            night = 0;
            for (int s = 0; s < MOST_STATUES; s++) {
                place[s] = NONE;
                dir[s] = 0;
                foe[s] = NONE;
            }
        }

        void become(Stand other) {
            night = other.night;
            for (int s = 0; s < MOST_STATUES; s++) {
                place[s] = other.place[s];
                dir[s] = other.dir[s];
                foe[s] = other.foe[s];
            }
        }

        boolean stands(int s) {
            return s >= 0 && s < MOST_STATUES && place[s] != NONE;
        }

        /** That it stands, and has a FOE that stands. */
        boolean hates(int s) {
            return stands(s) && stands(foe[s]);
        }

        int howManyStand() {
            int many = 0;
            for (int s = 0; s < MOST_STATUES; s++) {
                many += place[s] != NONE ? 1 : 0;
            }
            return many;
        }

        int howManyHate(int hated) {
            int many = 0;
            for (int s = 0; s < MOST_STATUES; s++) {
                many += place[s] != NONE && foe[s] == hated ? 1 : 0;
            }
            return many;
        }

        /** How many are in the ring of foes that s is in; 0 if it is in none. */
        int ringLength(int s) {
            int at = s;
            for (int n = 1; n <= MOST_STATUES; n++) {
                if (at < 0 || at >= MOST_STATUES || place[at] == NONE) {
                    return 0;
                }
                at = foe[at];
                if (at == s) {
                    return n;
                }
            }
            return 0;
        }
    }

    /** What a text told and no deed changes, and what can be seen on it as STATUES stand. */
    private static final class Square {
        final Law law = new Law();
        final int[] letterNight = new int[MOST_LETTERS];
        final int[] letterFrom = new int[MOST_LETTERS];
        final int[] letterTo = new int[MOST_LETTERS];
        final int[] snowNight = new int[MOST_SNOWS];
        final int[] snowFor = new int[MOST_SNOWS];
        int wide;
        int high;
        int statues;
        int lines;
        int letters;
        int snows;
        long walls;
        long fountains;

        void clear() {
            law.clear();
            wide = 0;
            high = 0;
            statues = 0;
            lines = 0;
            letters = 0;
            snows = 0;
            walls = 0;
            fountains = 0;
        }

        void become(Square other) {
            law.become(other.law);
            wide = other.wide;
            high = other.high;
            statues = other.statues;
            lines = other.lines;
            letters = other.letters;
            snows = other.snows;
            walls = other.walls;
            fountains = other.fountains;
            for (int i = 0; i < MOST_LETTERS; i++) {
                letterNight[i] = other.letterNight[i];
                letterFrom[i] = other.letterFrom[i];
                letterTo[i] = other.letterTo[i];
            }
            for (int i = 0; i < MOST_SNOWS; i++) {
                snowNight[i] = other.snowNight[i];
                snowFor[i] = other.snowFor[i];
            }
        }

        boolean hasStatue(int s) {
            return s >= 0 && s < statues && s < MOST_STATUES;
        }

        boolean hasStone(int k) {
            return k >= 0 && k < wide * high;
        }

        int columnOf(int k) {
            return wide < 1 ? 0 : k % wide;
        }

        int rowOf(int k) {
            return wide < 1 ? 0 : k / wide;
        }

        /** Keeps a letter, a peace (to NONE); it takes effect at once if it is of NIGHT 0. */
        void addLetter(Stand stand, int night, int from, int to) {
            if (letters < 0 || letters >= MOST_LETTERS || from < 0 || from >= MOST_STATUES) {
                return;
            }
            letterNight[letters] = night;
            letterFrom[letters] = from;
            letterTo[letters] = to;
            letters++;
            if (night == 0) {
                stand.foe[from] = to;
            }
        }

        void addSnow(int night, int many) {
            if (snows >= 0 && snows < MOST_SNOWS) {
                snowNight[snows] = night;
                snowFor[snows] = many;
                snows++;
            }
        }

        /** All letters, peaces of this NIGHT take effect. */
        void deliver(Stand stand) {
            for (int i = 0; i < letters && i < MOST_LETTERS; i++) {
                int from = letterFrom[i];
                if (letterNight[i] == stand.night && from >= 0 && from < MOST_STATUES) {
                    stand.foe[from] = letterTo[i];
                }
            }
        }

        boolean writtenFor(int night) {
            for (int i = 0; i < letters && i < MOST_LETTERS; i++) {
                if (letterNight[i] == night) {
                    return true;
                }
            }
            return false;
        }

        int writtenBehind(int night) {
            int many = 0;
            for (int i = 0; i < letters && i < MOST_LETTERS; i++) {
                many += letterNight[i] > night ? 1 : 0;
            }
            return many;
        }

        boolean snowLies(int night) {
            for (int i = 0; i < snows && i < MOST_SNOWS; i++) {
                if (night >= snowNight[i] && night - snowNight[i] < snowFor[i]) {
                    return true;
                }
            }
            return false;
        }

        long takenBits(Stand stand) {
            long bits = walls | fountains;
            for (int s = 0; s < MOST_STATUES; s++) {
                if (stand.place[s] != NONE) {
                    bits |= 1L << stand.place[s];
                }
            }
            return bits;
        }

        boolean isTaken(Stand stand, int k) {
            return (takenBits(stand) >>> k & 1) != 0;
        }

        /** The STATUE on a STONE, WALL, FOUNTAIN, or NONE. */
        int standingOn(Stand stand, int k) {
            if ((walls >>> k & 1) != 0) {
                return WALL;
            }
            if ((fountains >>> k & 1) != 0) {
                return FOUNTAIN;
            }
            for (int s = 0; s < MOST_STATUES; s++) {
                if (stand.place[s] == k) {
                    return s;
                }
            }
            return NONE;
        }

        /** The DIRECTION in which a STATUE's FOE is, NONE if one of both doesn't stand. */
        int towardsFoe(Stand stand, int s) {
            if (s < 0 || s >= MOST_STATUES || !stand.hates(s)) {
                return NONE;
            }
            int foe = stand.foe[s];
            if (foe < 0 || foe >= MOST_STATUES) {
                return NONE;
            }
            int moreX = columnOf(stand.place[foe]) - columnOf(stand.place[s]);
            int moreY = rowOf(stand.place[foe]) - rowOf(stand.place[s]);
            int farX = Math.abs(moreX);
            int farY = Math.abs(moreY);
            if (farX > 2 * farY) {
                return moreX > 0 ? 2 : 6;
            }
            if (farY > 2 * farX) {
                return moreY > 0 ? 4 : 0;
            }
            if (moreX > 0) {
                return moreY > 0 ? 3 : 1;
            }
            return moreY > 0 ? 5 : 7;
        }

        int offOf(Stand stand, int s) {
            int aim = towardsFoe(stand, s);
            if (aim == NONE || s < 0 || s >= MOST_STATUES) {
                return 0;
            }
            int clockwise = aim - stand.dir[s] & 7;
            return Math.min(clockwise, 8 - clockwise);
        }

        /** LOOK of a STATUE as bits, as the STONES taken are. */
        long lookOf(Stand stand, int s, long taken) {
            if (s < 0 || s >= MOST_STATUES || !stand.hates(s)) {
                return 0;
            }
            int moreX = ALONG_X[stand.dir[s] & 7];
            int moreY = ALONG_Y[stand.dir[s] & 7];
            int x = columnOf(stand.place[s]) + moreX;
            int y = rowOf(stand.place[s]) + moreY;
            long bits = 0;
            for (int i = 0; i < 8 && x >= 0 && x < wide && y >= 0 && y < high; i++) {
                long bit = 1L << wide * y + x;
                if ((taken & bit) != 0) {
                    return bits;
                }
                bits |= bit;
                x += moreX;
                y += moreY;
            }
            return bits;
        }

        /** The STATUE at the end of a STATUE's LOOK, or NONE. */
        int seenBy(Stand stand, int s) {
            if (s < 0 || s >= MOST_STATUES || !stand.hates(s)) {
                return NONE;
            }
            int far = Long.bitCount(lookOf(stand, s, takenBits(stand))) + 1;
            int x = columnOf(stand.place[s]) + far * ALONG_X[stand.dir[s] & 7];
            int y = rowOf(stand.place[s]) + far * ALONG_Y[stand.dir[s] & 7];
            if (x < 0 || x >= wide || y < 0 || y >= high) {
                return NONE;
            }
            return Math.max(NONE, standingOn(stand, wide * y + x));
        }

        long underBits(Stand stand) {
            long taken = takenBits(stand);
            long bits = 0;
            for (int s = 0; s < statues; s++) {
                bits |= lookOf(stand, s, taken);
            }
            return bits;
        }

        int watcherBits(Stand stand, int k) {
            long taken = takenBits(stand);
            int bits = 0;
            for (int s = 0; s < statues; s++) {
                if ((lookOf(stand, s, taken) >>> k & 1) != 0) {
                    bits |= 1 << s;
                }
            }
            return bits;
        }
    }

    /** The law of rest: its postfix code, in which a number stands for itself and any other TOKEN for less than 0. */
    private static final class Law {
        final int[] code = new int[TAPE_BYTES];
        final int[] pile = new int[64];
        /** night, week, me, dir, off, x, y, foes: what the law is asked about, as ordered in WORDS. */
        final int[] given = new int[8];
        int length;

        void clear() {
            length = 0;
        }

        void become(Law other) {
            length = other.length;
            for (int i = 0; i < length && i < code.length; i++) {
                code[i] = other.code[i];
            }
        }

        void add(int c) {
            if (length >= 0 && length < code.length) {
                code[length] = c;
                length++;
            }
        }

        boolean holds() {
            int top = 0;
            for (int i = 0; i < length && i < code.length && top < pile.length; i++) {
                int token = -code[i];
                if (token <= 0) {
                    pile[top] = code[i];
                    top++;
                } else if (token >= NIGHT && token <= FOES) {
                    pile[top] = given[token - NIGHT];
                    top++;
                } else if (token == NOT && top >= 1) {
                    pile[top - 1] = 1 - pile[top - 1];
                } else if (top >= 2) {
                    top--;
                    pile[top - 1] = work(token, pile[top - 1], pile[top]);
                }
            }
            return top == 1 && pile[0] == 1;
        }

        private static int work(int token, int a, int b) {
            long answer;
            switch (token) {
                case OR:
                    return a | b;
                case AND:
                    return a & b;
                case '=':
                    return a == b ? 1 : 0;
                case '<':
                    return a < b ? 1 : 0;
                case '>':
                    return a > b ? 1 : 0;
                case '*':
                    answer = (long) a * b;
                    break;
                case '+':
                    answer = (long) a + b;
                    break;
                default:
                    answer = (long) a - b;
                    break;
            }
            return (int) Math.max(-1000000L, Math.min(1000000L, answer));
        }
    }

    /** What befalls STATUES: NIGHTS and deeds. */
    private static final class Course {
        /** A NIGHT goes by: who turned, as bits. */
        static int passNight(Square square, Stand stand) {
            int turned = 0;
            if (!square.snowLies(stand.night)) {
                // No turn hangs on how another one looks, so one by one is as good as all at once.
                for (int s = 0; s < square.statues && s < MOST_STATUES; s++) {
                    int turn = turnOf(square, stand, s);
                    if (turn != 0) {
                        stand.dir[s] = stand.dir[s] + turn & 7;
                        turned |= 1 << s;
                    }
                }
            }
            stand.night++;
            square.deliver(stand);
            return turned;
        }

        /** 1 if a STATUE would turn with the clock on a NIGHT without snow, -1 if against it, else 0. */
        static int turnOf(Square square, Stand stand, int s) {
            int aim = square.towardsFoe(stand, s);
            if (aim == NONE || s < 0 || s >= MOST_STATUES) {
                return 0;
            }
            int clockwise = aim - stand.dir[s] & 7;
            if (clockwise == 0) {
                return 0;
            }
            if (square.law.length > 0) {
                inform(square, stand, s, Math.min(clockwise, 8 - clockwise));
                if (square.law.holds()) {
                    return 0;
                }
            }
            return clockwise <= 4 ? 1 : -1;
        }

        /** Tells the law of a STATUE that it is to judge. */
        private static void inform(Square square, Stand stand, int s, int off) {
            if (s < 0 || s >= MOST_STATUES) {
                return;
            }
            int[] given = square.law.given;
            given[0] = stand.night;
            given[1] = stand.night % 7;
            given[2] = s;
            given[3] = stand.dir[s];
            given[4] = off;
            given[5] = square.columnOf(stand.place[s]);
            given[6] = square.rowOf(stand.place[s]);
            given[7] = stand.howManyHate(s);
        }

        static int whyNoLetter(Square square, Stand stand, int a, int b) {
            if (!square.hasStatue(a) || !square.hasStatue(b) || a == b) {
                return 1;
            }
            return stand.stands(a) && stand.stands(b) ? 0 : 2;
        }

        /** Why no PEACE for it can be, and why it can't be taken DOWN. */
        static int whyNotStanding(Square square, Stand stand, int s) {
            if (!square.hasStatue(s)) {
                return 1;
            }
            return stand.stands(s) ? 0 : 2;
        }

        static int whyNotUp(Square square, Stand stand, int s, int k) {
            if (!square.hasStatue(s) || !square.hasStone(k)) {
                return 1;
            }
            if (stand.stands(s)) {
                return 2;
            }
            return square.isTaken(stand, k) ? 3 : 0;
        }

        /** Why a deed of a TRAY can't be, 0 if it can. */
        static int whyNot(Square square, Stand stand, long deed) {
            if (deed == NONE) {
                return 0;
            }
            if (deed >= 0 && deed < 80) {
                return whyNoLetter(square, stand, (int) deed / 10, (int) deed % 10);
            }
            if (deed >= 100 && deed < 100 + MOST_STATUES) {
                return whyNotStanding(square, stand, (int) deed - 100);
            }
            if (deed >= 200 && deed < 200 + MOST_STATUES) {
                return whyNotStanding(square, stand, (int) deed - 200);
            }
            if (deed >= 1000 && deed < 1000 + 100 * MOST_STATUES) {
                return whyNotUp(square, stand, ((int) deed - 1000) / 100, ((int) deed - 1000) % 100);
            }
            return 1;
        }

        /** Does a deed that can be: how many eighths are turned by it. */
        static int doDeed(Square square, Stand stand, long deed) {
            if (deed == NONE) {
                return Integer.bitCount(passNight(square, stand));
            }
            if (whyNot(square, stand, deed) != 0) {
                return 0;
            }
            int code = (int) deed;
            if (code < 80) {
                stand.foe[code / 10] = code % 10;
            } else if (code < 200) {
                stand.foe[code - 100] = NONE;
            } else if (code < 1000) {
                stand.place[code - 200] = NONE;
            } else {
                stand.place[(code - 1000) / 100] = (code - 1000) % 100;
            }
            return 0;
        }
    }

    /** How all stood ahead of the latest calls that can be UNDONE, the eldest at first, on with each and round. */
    private static final class Past {
        final Stand[] stands = new Stand[MOST_UNDONE];
        int eldest;
        int held;

        Past() {
            for (int i = 0; i < stands.length; i++) {
                stands[i] = new Stand();
            }
        }

        void forget() {
            held = 0;
        }

        void keep(Stand stand) {
            int at = (eldest + held) % MOST_UNDONE;
            if (at >= 0 && at < stands.length && stands[at] != null) {
                stands[at].become(stand);
            }
            if (held < MOST_UNDONE) {
                held++;
            } else {
                eldest = (eldest + 1) % MOST_UNDONE;
            }
        }

        void bringBack(int n, Stand stand) {
            if (n < 1 || n > held) {
                return;
            }
            held -= n;
            int at = (eldest + held) % MOST_UNDONE;
            if (at >= 0 && at < stands.length && stands[at] != null) {
                stand.become(stands[at]);
            }
        }
    }

    /** Numbers of one sort. */
    private static final class Tray {
        final long[] cells = new long[TRAY_NUMBERS];
        boolean there;
        int sort;
        int size;

        void renew(int newSort, int newSize) {
            there = true;
            sort = newSort;
            size = newSize;
            for (int i = 0; i < cells.length; i++) {
                cells[i] = 0;
            }
        }

        long get(int i) {
            return i >= 0 && i < size && i < cells.length ? cells[i] : 0;
        }

        void put(int i, long v) {
            if (i >= 0 && i < size && i < cells.length) {
                cells[i] = cut(v);
            }
        }

        private long cut(long v) {
            switch (sort) {
                case 0:
                    return (byte) v;
                case 1:
                    return (short) v;
                case 2:
                    return (int) v;
                default:
                    return v;
            }
        }
    }

    /** What would come of each LETTER if it were found now. */
    private static final class Search {
        final Stand trial = new Stand();
        int found;
        int firstWriter;
        int firstReader;
        boolean sameWriter;
        boolean sameReader;

        void gatherFreeing(Square square, Stand now, int k, int n) {
            found = 0;
            for (int letter = 0; letter < 80; letter++) {
                if (foresee(square, now, letter, n) && square.watcherBits(trial, k) == 0) {
                    accept(letter);
                }
            }
        }

        void gatherSeen(Square square, Stand now, Tray dirs, int n) {
            found = 0;
            for (int letter = NONE; letter < 80; letter++) {
                if (foresee(square, now, letter, n) && looksLike(dirs)) {
                    accept(letter);
                }
            }
        }

        /** How all stands n NIGHTS behind a letter (10 times who writes, and to whom; NONE: none); false if it is no LETTER. */
        private boolean foresee(Square square, Stand now, int letter, int n) {
            trial.become(now);
            if (letter != NONE) {
                int from = letter / 10;
                int to = letter % 10;
                if (Course.whyNoLetter(square, now, from, to) != 0 || now.foe[from] == to) {
                    return false;
                }
                trial.foe[from] = to;
            }
            for (int i = 0; i < n; i++) {
                Course.passNight(square, trial);
            }
            return true;
        }

        private boolean looksLike(Tray dirs) {
            for (int s = 0; s < dirs.size && s < MOST_STATUES; s++) {
                if (dirs.get(s) != NONE && dirs.get(s) != trial.dir[s]) {
                    return false;
                }
            }
            return true;
        }

        private void accept(int letter) {
            int from = letter == NONE ? NONE : letter / 10;
            int to = letter == NONE ? NONE : letter % 10;
            if (found == 0) {
                firstWriter = from;
                firstReader = to;
                sameWriter = true;
                sameReader = true;
            }
            sameWriter = sameWriter && from == firstWriter;
            sameReader = sameReader && to == firstReader;
            found++;
        }
    }

    /** WAYS over the square in the coming NIGHTS. */
    private static final class Walks {
        final Stand trial = new Stand();
        /** For each coming NIGHT the STONES one may go to or stay on. */
        final long[] open = new long[LONGEST_WAY];
        /** Where one may be behind each number of NIGHTS and still come to the end in time. */
        final long[] hopeful = new long[LONGEST_WAY + 1];
        final long[] many = new long[MOST_STONES];
        final long[] next = new long[MOST_STONES];
        long firstColumn;
        long lastColumn;
        long all;

        void foresee(Square square, Stand now) {
            measure(square);
            trial.become(now);
            long taken = square.takenBits(now);
            for (int night = 0; night < open.length; night++) {
                open[night] = all & ~taken & ~square.underBits(trial);
                Course.passNight(square, trial);
            }
        }

        private void measure(Square square) {
            firstColumn = 0;
            lastColumn = 0;
            all = 0;
            for (int k = 0; k < MOST_STONES && square.hasStone(k); k++) {
                long bit = 1L << k;
                all |= bit;
                if (square.columnOf(k) == 0) {
                    firstColumn |= bit;
                }
                if (square.columnOf(k) == square.wide - 1) {
                    lastColumn |= bit;
                }
            }
        }

        /** These STONES and all beside them. */
        private long spread(Square square, long bits) {
            long beside = (bits & ~lastColumn) << 1 | (bits & ~firstColumn) >>> 1;
            return all & (bits | beside | bits << square.wide | bits >>> square.wide);
        }

        long reachedIn(Square square, int from, int n) {
            long bits = 1L << from;
            for (int night = 0; night < n && night < open.length; night++) {
                bits = spread(square, bits) & open[night];
            }
            return bits;
        }

        int fewestNights(Square square, int from, int to) {
            long bits = 1L << from;
            for (int n = 0; n <= LONGEST_WAY; n++) {
                if ((bits >>> to & 1) != 0) {
                    return n;
                }
                if (n < open.length) {
                    bits = spread(square, bits) & open[n];
                }
            }
            return NONE;
        }

        long howMany(Square square, int from, int to, int n) {
            if (from < 0 || from >= MOST_STONES || to < 0 || to >= MOST_STONES) {
                return 0;
            }
            for (int k = 0; k < MOST_STONES; k++) {
                many[k] = 0;
            }
            many[from] = 1;
            for (int night = 0; night < n && night < open.length; night++) {
                for (int k = 0; k < MOST_STONES; k++) {
                    next[k] = (open[night] >>> k & 1) != 0 ? sumOver(spread(square, 1L << k)) : 0;
                }
                System.arraycopy(next, 0, many, 0, MOST_STONES);
            }
            return many[to];
        }

        private long sumOver(long bits) {
            long sum = 0;
            long left = bits;
            for (int i = 0; i < MOST_STONES && left != 0; i++) {
                sum += many[Long.numberOfTrailingZeros(left) & 63];
                left &= left - 1;
            }
            return sum;
        }

        /** Where the first by STONES of the WAYS of n NIGHTS, of which there is one, is behind k NIGHTS. */
        int placeBehind(Square square, int from, int to, int n, int k) {
            if (n < 0 || n > LONGEST_WAY) {
                return NONE;
            }
            hopeful[n] = 1L << to;
            for (int night = n - 1; night >= 0; night--) {
                hopeful[night] = spread(square, hopeful[night + 1] & open[night]);
            }
            int at = from;
            for (int night = 0; night < k && night < n; night++) {
                long choice = spread(square, 1L << at) & open[night] & hopeful[night + 1];
                if (choice == 0) {
                    return NONE;
                }
                at = Long.numberOfTrailingZeros(choice);
            }
            return at;
        }
    }

    /** THE TAPE; the TOKENS of the text that it begins with, one at a time, and the first FAULT along it. */
    private static final class Tokens {
        final byte[] tape = new byte[TAPE_BYTES];
        int length;
        int at;
        int start;
        int token;
        int value;
        int fault;
        int place;

        void begin(int n) {
            length = n < tape.length ? n : tape.length;
            at = 0;
            fault = 0;
            place = NONE;
            advance();
        }

        private int byteAt(int i) {
            return i >= 0 && i < length && i < tape.length ? tape[i] : NONE;
        }

        void advance() {
            for (int i = 0; i < TAPE_BYTES && (byteAt(at) == ' ' || byteAt(at) == 10); i++) {
                at++;
            }
            start = at;
            int first = byteAt(at);
            if (at >= length) {
                token = END;
            } else if (first >= 'a' && first <= 'z') {
                token = word();
            } else if (first >= '0' && first <= '9') {
                token = number();
            } else {
                token = isSign(first) ? first : BAD;
                at++;
            }
        }

        private static boolean isSign(int c) {
            for (int i = 0; i < SIGNS.length(); i++) {
                if (SIGNS.charAt(i) == c) {
                    return true;
                }
            }
            return false;
        }

        private int number() {
            value = 0;
            for (int i = 0; i < TAPE_BYTES && byteAt(at) >= '0' && byteAt(at) <= '9'; i++) {
                value = i < 3 ? 10 * value + byteAt(at) - '0' : value;
                at++;
            }
            return at - start > 3 ? BAD : NUMBER;
        }

        private int word() {
            for (int i = 0; i < TAPE_BYTES && byteAt(at) >= 'a' && byteAt(at) <= 'z'; i++) {
                at++;
            }
            int word = STONES;
            int i = start;
            boolean like = true;
            for (int c = 0; c < WORDS.length(); c++) {
                if (WORDS.charAt(c) != ' ') {
                    like = like && i < at && byteAt(i) == WORDS.charAt(c);
                    i++;
                } else if (like && i == at) {
                    return word;
                } else {
                    word++;
                    i = start;
                    like = true;
                }
            }
            return UNKNOWN_WORD;
        }

        /** The TOKEN at hand is at fault. */
        boolean wrong(int kind) {
            fault = kind;
            place = start;
            return false;
        }

        boolean misplaced() {
            return wrong(token == BAD ? NO_TOKEN : MISPLACED);
        }

        boolean expect(int wanted) {
            if (token != wanted) {
                return misplaced();
            }
            advance();
            return true;
        }
    }

    /** Reads a text's LINES into a square and a stand of its own. */
    private static final class Reader {
        final Tokens tokens = new Tokens();
        final LawReader lawReader = new LawReader();
        final Square square = new Square();
        final Stand stand = new Stand();
        /** The latest N and the latest STONE that were read. */
        int number;
        int spot;

        int faultPlace() {
            return tokens.place;
        }

        /** Reads the first n bytes: their FAULT, 0 for none. */
        int readText(int n) {
            square.clear();
            stand.clear();
            tokens.begin(n);
            for (int i = 0; i < TAPE_BYTES && tokens.token != END; i++) {
                boolean fine;
                switch (tokens.token) {
                    case STONES:
                        fine = readStones();
                        break;
                    case STATUE:
                        fine = readStatue();
                        break;
                    case A_WALL:
                    case A_FOUNTAIN:
                        fine = readBlock(tokens.token == A_WALL);
                        break;
                    case LETTER:
                        fine = readLetter(true);
                        break;
                    case PEACE:
                        fine = readLetter(false);
                        break;
                    case SNOW:
                        fine = readSnow();
                        break;
                    case REST:
                        fine = readRest();
                        break;
                    default:
                        fine = tokens.misplaced();
                        break;
                }
                if (!fine || !tokens.expect(';')) {
                    return tokens.fault;
                }
                square.lines++;
            }
            return tokens.fault;
        }

        private boolean readRest() {
            tokens.advance();
            return tokens.expect(':') && lawReader.readLaw(tokens, square.law);
        }

        private boolean readNumber(int least, int most) {
            if (tokens.token != NUMBER) {
                return tokens.misplaced();
            }
            if (tokens.value < least || tokens.value > most) {
                return tokens.wrong(OUT_OF_BOUNDS);
            }
            number = tokens.value;
            tokens.advance();
            return true;
        }

        /** An x and a y of a STONE that isn't taken. */
        private boolean readSpot() {
            if (!readNumber(0, square.wide - 1)) {
                return false;
            }
            int x = number;
            spot = square.wide * tokens.value + x;
            boolean onSquare = tokens.token == NUMBER && tokens.value < square.high;
            if (onSquare && square.isTaken(stand, spot)) {
                return tokens.wrong(OUT_OF_BOUNDS);
            }
            return readNumber(0, square.high - 1);
        }

        private boolean readStones() {
            if (square.wide > 0) {
                return tokens.misplaced();
            }
            tokens.advance();
            if (!readNumber(2, 8)) {
                return false;
            }
            int wide = number;
            if (!readNumber(2, 8)) {
                return false;
            }
            square.wide = wide;
            square.high = number;
            return true;
        }

        private boolean readStatue() {
            if (square.wide == 0) {
                return tokens.misplaced();
            }
            int s = square.statues;
            if (s < 0 || s >= MOST_STATUES) {
                return tokens.wrong(ONE_TOO_MANY);
            }
            tokens.advance();
            if (!readSpot() || !tokens.expect(LOOKS) || !readNumber(0, 7)) {
                return false;
            }
            stand.dir[s] = number;
            if (tokens.token == AT) {
                tokens.advance();
                if (!readNumber(0, s - 1)) {
                    return false;
                }
                stand.foe[s] = number;
            }
            stand.place[s] = spot;
            square.statues++;
            return true;
        }

        private boolean readBlock(boolean wall) {
            if (square.wide == 0) {
                return tokens.misplaced();
            }
            tokens.advance();
            if (!readSpot()) {
                return false;
            }
            if (wall) {
                square.walls |= 1L << spot;
            } else {
                square.fountains |= 1L << spot;
            }
            return true;
        }

        private boolean readLetter(boolean toAnother) {
            if (square.letters >= MOST_LETTERS) {
                return tokens.wrong(ONE_TOO_MANY);
            }
            tokens.advance();
            if (!readNumber(0, 999)) {
                return false;
            }
            int night = number;
            if (!tokens.expect(FROM) || !readNumber(0, square.statues - 1)) {
                return false;
            }
            int from = number;
            int to = NONE;
            if (toAnother) {
                if (!tokens.expect(TO)) {
                    return false;
                }
                if (tokens.token == NUMBER && tokens.value == from) {
                    return tokens.wrong(OUT_OF_BOUNDS);
                }
                if (!readNumber(0, square.statues - 1)) {
                    return false;
                }
                to = number;
            }
            square.addLetter(stand, night, from, to);
            return true;
        }

        private boolean readSnow() {
            if (square.snows >= MOST_SNOWS) {
                return tokens.wrong(ONE_TOO_MANY);
            }
            tokens.advance();
            if (!readNumber(0, 999)) {
                return false;
            }
            int night = number;
            if (!tokens.expect(FOR) || !readNumber(1, 99)) {
                return false;
            }
            square.addSnow(night, number);
            return true;
        }
    }

    /** Reads a TRUTH into postfix code; what waits for its right side, and what is open, lies on a pile. */
    private static final class LawReader {
        // What may come next: a UNIT, an ATOM, what stands behind an ATOM, what stands behind a ].
        private static final int UNIT_DUE = 0;
        private static final int ATOM_DUE = 1;
        private static final int BEHIND_ATOM = 2;
        private static final int BEHIND_TRUTH = 3;
        private static final int REFUSED = -1;

        final int[] waiting = new int[64];
        int held;
        int nested;
        int openSums;
        int openTruths;
        /** That the UNIT at hand has its = < >. */
        boolean compared;

        /** Reads up to the ; behind it. */
        boolean readLaw(Tokens tokens, Law law) {
            law.clear();
            held = 0;
            nested = 0;
            openSums = 0;
            openTruths = 0;
            compared = false;
            int state = UNIT_DUE;
            for (int i = 0; i < TAPE_BYTES; i++) {
                if (state == UNIT_DUE || state == ATOM_DUE) {
                    state = readOperand(tokens, law, state);
                } else if (tokens.token == ';' && openTruths == 0 && isWhole(state)) {
                    release(law, 1);
                    return true;
                } else {
                    state = readBehind(tokens, law, state);
                }
                if (state == REFUSED) {
                    return false;
                }
                tokens.advance();
            }
            return tokens.misplaced();
        }

        /** That a whole UNIT was read. */
        private boolean isWhole(int state) {
            return state == BEHIND_TRUTH || state == BEHIND_ATOM && compared && openSums == 0;
        }

        private int readOperand(Tokens tokens, Law law, int state) {
            int token = tokens.token;
            if (token == NUMBER) {
                law.add(tokens.value);
                return BEHIND_ATOM;
            }
            if (token >= NIGHT && token <= FOES) {
                law.add(-token);
                return BEHIND_ATOM;
            }
            boolean opens = token == '(' || state == UNIT_DUE && (token == '[' || token == NOT);
            if (!opens) {
                tokens.misplaced();
                return REFUSED;
            }
            if (nested >= MOST_NESTED) {
                tokens.wrong(ONE_TOO_MANY);
                return REFUSED;
            }
            nested++;
            openSums += token == '(' ? 1 : 0;
            openTruths += token == '[' ? 1 : 0;
            shelve(token);
            return token == '(' ? ATOM_DUE : UNIT_DUE;
        }

        private int readBehind(Tokens tokens, Law law, int state) {
            int token = tokens.token;
            if (state == BEHIND_ATOM) {
                if (token == '+' || token == '-' || token == '*') {
                    join(law, token);
                    return ATOM_DUE;
                }
                if ((token == '=' || token == '<' || token == '>') && openSums == 0 && !compared) {
                    compared = true;
                    join(law, token);
                    return ATOM_DUE;
                }
                if (token == ')' && openSums > 0) {
                    openSums--;
                    close(law);
                    return BEHIND_ATOM;
                }
            }
            if (isWhole(state) && (token == AND || token == OR)) {
                compared = false;
                join(law, token);
                return UNIT_DUE;
            }
            if (isWhole(state) && token == ']' && openTruths > 0) {
                openTruths--;
                close(law);
                return BEHIND_TRUTH;
            }
            tokens.misplaced();
            return REFUSED;
        }

        private void shelve(int token) {
            if (held >= 0 && held < waiting.length) {
                waiting[held] = token;
                held++;
            }
        }

        private void join(Law law, int token) {
            release(law, bond(token));
            shelve(token);
        }

        /** Ends the innermost ( or [. */
        private void close(Law law) {
            release(law, 1);
            held = Math.max(0, held - 1);
            nested--;
        }

        /** All that binds at least so fast and waits above the innermost ( or [ goes into the code. */
        private void release(Law law, int least) {
            for (int i = held; i > 0 && held > 0 && held <= waiting.length; i--) {
                int token = waiting[held - 1];
                if (bond(token) < least) {
                    return;
                }
                law.add(-token);
                held--;
                nested -= token == NOT ? 1 : 0;
            }
        }

        private static int bond(int token) {
            switch (token) {
                case '(':
                case '[':
                    return 0;
                case OR:
                    return 1;
                case AND:
                    return 2;
                case NOT:
                    return 3;
                case '=':
                case '<':
                case '>':
                    return 4;
                case '+':
                case '-':
                    return 5;
                default:
                    return 6;
            }
        }
    }
}
