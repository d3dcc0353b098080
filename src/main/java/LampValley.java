import java.util.NoSuchElementException;

/**
 * Lamps on two sides of a valley, each of a colour mixed by three oils, that move
 * nightly towards the one they like. The words in capitals are the document's terms.
 */
public final class LampValley {
    public static final int NONE = -1;

    private static final int MOST_LAMPS = 6;
    private static final int OILS = 3;
    private static final int ROW = 18;
    private static final int MOST_FOGS = 10;
    private static final int MOST_BYTES = 500;
    private static final int FED_BYTES = 20;
    private static final int MOST_PARTS = 30;
    private static final int MOST_NIGHTS = 99;
    private static final int MOST_YEARS = 40;

    private static final int SHY = 1;
    private static final int BOLD = 2;
    private static final int DRUNK = 3;
    private static final int WIDOW = 4;
    private static final int GREEN = 1;

    private static final int NO_LAWS = 0;
    private static final int HALF_STEPS = 1;
    private static final int NO_GREEN = 2;
    private static final int ALL_LAWS = 3;

    private static final int TEXTS = 0;
    private static final int DROPS = 1;
    private static final int NIGHTS = 2;
    private static final int STATUS = 3;

    private static final int END_FIRST_DUSK = 100;
    private static final int END_DUSKS = 1000;

    private final int[] tape = new int[MOST_BYTES];
    private final Reader reader;
    private final Story story = new Story();
    private final Story kept = new Story();
    private final Scene trial = new Scene();
    private final long[] colours = new long[END_DUSKS + 1];
    private final int[] drawn = new int[MOST_LAMPS];
    private final int[] seen = new int[OILS];
    private final Council council = new Council();
    private final Way way;
    private Told told = new Told();
    private Told spare = new Told();
    private int tapeLength;
    private int faultPlace = NONE;
    private boolean isKept;

    public LampValley() {
        reader = new Reader(tape, spare);
        way = new Way(told);
        story.begin(told);
    }

    public int feed(int a, int b, int c, int d, int e) {
        if (tapeLength + FED_BYTES > MOST_BYTES) {
            return NONE;
        }
        putBytes(a);
        putBytes(b);
        putBytes(c);
        putBytes(d);
        putBytes(e);
        return tapeLength;
    }

    public int valley(int n) throws IllegalArgumentException {
        if (n < 0 || n > tapeLength) {
            throw new IllegalArgumentException();
        }
        tapeLength = 0;
        reader.read(n, spare);
        faultPlace = reader.place;
        if (reader.wrong != 0) {
            story.refused[TEXTS]++;
            return reader.wrong;
        }
        Told old = told;
        told = spare;
        spare = old;
        story.begin(told);
        isKept = false;
        return 0;
    }

    public int fault() {
        return faultPlace;
    }

    public int count(int what) throws NoSuchElementException {
        switch (what) {
            case 0: return told.full;
            case 1: return told.lamps;
            case 2: return told.step;
            case 3: return told.near;
            case 4: return told.fright;
            case 5: return told.easter;
            case 6: return told.fogs;
            case 7: return story.scene.night;
            case 8: return story.scene.couples;
            case 9: return tapeLength;
            case 10: return story.refused[TEXTS];
            case 11: return story.refused[DROPS];
            case 12: return story.refused[NIGHTS];
            default: throw new NoSuchElementException();
        }
    }

    public int lamp(int lamp, int what) throws NoSuchElementException {
        requireLamp(lamp);
        switch (what) {
            case 0: return told.kind[lamp];
            case 1: return told.side[lamp];
            case 2:
            case 3:
            case 4: return story.scene.oils[lamp * OILS + what - 2];
            case 5: return told.likes[lamp];
            case 6: return story.scene.spouse[lamp];
            case 7: return story.scene.wedding[lamp];
            default: throw new NoSuchElementException();
        }
    }

    public int far(int lamp, int other) throws NoSuchElementException {
        requireLamp(lamp);
        requireLamp(other);
        return story.scene.apart(lamp, other);
    }

    public int nights(int nights) throws IllegalArgumentException {
        if (nights < 0 || nights > MOST_NIGHTS) {
            throw new IllegalArgumentException();
        }
        if (story.scene.night + nights > told.easter) {
            story.refused[NIGHTS]++;
            return NONE;
        }
        int before = story.scene.couples;
        way.obey(told, told.likes, NO_LAWS);
        for (int i = 0; i < nights; i++) {
            story.writeDusk();
            way.passNight(story.scene);
            story.writeDawn();
        }
        return story.scene.couples - before;
    }

    public int undo(int nights) throws IllegalArgumentException {
        if (nights < 0) {
            throw new IllegalArgumentException();
        }
        int back = Math.min(nights, story.scene.night);
        if (back > 0) {
            story.goBack(back);
        }
        return back;
    }

    public int book(int night, int lamp, int oil) throws NoSuchElementException {
        requireLamp(lamp);
        requireOil(oil);
        if (night < 0 || night > story.scene.night) {
            throw new NoSuchElementException();
        }
        return story.dawns[night * ROW + lamp * OILS + oil];
    }

    public boolean drop(int lamp, int from, int to) throws NoSuchElementException {
        requireLamp(lamp);
        requireOil(from);
        requireOil(to);
        if (from == to) {
            throw new NoSuchElementException();
        }
        boolean given = !story.scene.isOut(lamp) && story.scene.pour(lamp, from, to);
        if (!given) {
            story.refused[DROPS]++;
        }
        return given;
    }

    public int end(int what) throws NoSuchElementException {
        requireFirstOrSecond(what);
        int round = findRound();
        if (round == NONE || what == 0) {
            return round;
        }
        return allLamps() & ~trial.out;
    }

    public int matches(int laws) throws IllegalArgumentException {
        if (laws < NO_LAWS || laws > ALL_LAWS) {
            throw new IllegalArgumentException();
        }
        way.obey(told, told.likes, laws);
        trial.take(story.scene);
        way.goToEaster(trial, allLamps());
        return trial.couples;
    }

    public int mother(int lamp, int what) throws NoSuchElementException {
        requireLamp(lamp);
        requireFirstOrSecond(what);
        if (story.scene.isOut(lamp)) {
            return NONE;
        }
        way.obey(told, told.likes, NO_LAWS);
        council.hear(way, story.scene, trial, 1 << lamp);
        int best = council.bestOfOne();
        if (what == 0) {
            return council.dropOf(best);
        }
        return council.weddingOf(best);
    }

    public int mothers(int lamps, int what)
            throws NoSuchElementException, IllegalArgumentException {
        requireFirstOrSecond(what);
        if (!areChildren(lamps)) {
            throw new IllegalArgumentException();
        }
        way.obey(told, told.likes, NO_LAWS);
        council.hear(way, story.scene, trial, lamps);
        if (what == 0) {
            return council.countRests();
        }
        return council.firstRest();
    }

    public int may(int lamp) throws NoSuchElementException {
        requireLamp(lamp);
        return leftByBook(lamp);
    }

    public int tells(int lamp, int what) throws NoSuchElementException {
        requireLamp(lamp);
        requireFirstOrSecond(what);
        int left = leftByBook(lamp);
        int bestNight = NONE;
        int fewest = NONE;
        trial.take(story.scene);
        for (int night = trial.night; night < told.easter; night++) {
            way.moveLamp(trial, lamp, told.likes[lamp]);
            System.arraycopy(way.dawn, lamp * OILS, seen, 0, OILS);
            int count = Integer.bitCount(leftByNight(lamp, left));
            if (fewest == NONE || count < fewest) {
                fewest = count;
                bestNight = night;
            }
            way.passNight(trial);
        }
        return what == 0 ? bestNight : fewest;
    }

    public int near(int parts) throws IllegalArgumentException {
        if (parts < 0 || parts > MOST_PARTS) {
            throw new IllegalArgumentException();
        }
        int couples = 0;
        for (int lamp = 0; lamp < told.lamps; lamp++) {
            for (int other = lamp + 1; other < told.lamps; other++) {
                if (!story.scene.isOut(lamp) && !story.scene.isOut(other)
                        && story.scene.apart(lamp, other) <= parts) {
                    couples++;
                }
            }
        }
        return couples;
    }

    public int years(int lamp, int seed, int years)
            throws NoSuchElementException, IllegalArgumentException {
        requireLamp(lamp);
        if (years < 0 || years > MOST_YEARS) {
            throw new IllegalArgumentException();
        }
        way.obey(told, drawn, NO_LAWS);
        int alone = 0;
        int nextSeed = seed;
        for (int year = 0; year < years; year++) {
            nextSeed = drawLikes(nextSeed);
            trial.begin(told);
            way.goToEaster(trial, 1 << lamp);
            if (!trial.isOut(lamp)) {
                alone++;
            }
        }
        return alone;
    }

    public void image() {
        kept.take(story);
        isKept = true;
    }

    public boolean restore() {
        if (isKept) {
            story.take(kept);
        }
        return isKept;
    }

    private void putBytes(int number) {
        for (int shift = 24; shift >= 0 && tapeLength < MOST_BYTES; shift -= 8) {
            tape[tapeLength] = number >>> shift & 255;
            tapeLength++;
        }
    }

    private void requireLamp(int lamp) {
        if (lamp < 0 || lamp >= told.lamps) {
            throw new NoSuchElementException();
        }
    }

    private static void requireOil(int oil) {
        if (oil < 0 || oil >= OILS) {
            throw new NoSuchElementException();
        }
    }

    private static void requireFirstOrSecond(int what) {
        if (what != 0 && what != 1) {
            throw new NoSuchElementException();
        }
    }

    private int allLamps() {
        return (1 << told.lamps) - 1;
    }

    private boolean areChildren(int lamps) {
        boolean areThere = (lamps & ~allLamps()) == 0 && (lamps & story.scene.out) == 0;
        return areThere && lamps != 0 && Integer.bitCount(lamps) <= Council.MOST;
    }

    /** How many NIGHTS THE END's round has; the trial is at its second dusk then. */
    private int findRound() {
        way.obey(told, told.likes, NO_LAWS);
        trial.take(story.scene);
        for (int night = trial.night; night < END_FIRST_DUSK; night++) {
            way.passNight(trial);
        }
        colours[0] = trial.packColours();
        // A dusk ahead of the latest wedding had other LAMPS OUT, so it can't come again.
        int oldest = 0;
        for (int dusk = 1; dusk <= END_DUSKS; dusk++) {
            int couples = trial.couples;
            way.passNight(trial);
            if (trial.couples != couples) {
                oldest = dusk;
            }
            colours[dusk] = trial.packColours();
            for (int back = dusk - 2; back >= oldest; back -= 2) {
                if (colours[back] == colours[dusk]) {
                    return dusk - back;
                }
            }
        }
        return NONE;
    }

    /** WHO MAY be LIKED, as bits; the bit behind all LAMPS' stands for none. */
    private int leftByBook(int lamp) {
        way.obey(told, told.likes, NO_LAWS);
        int left = allLamps() & ~(1 << lamp) | 1 << MOST_LAMPS;
        for (int night = 0; night < story.scene.night; night++) {
            story.readDusk(night, trial);
            story.readDawn(night, lamp, seen);
            left = leftByNight(lamp, left);
        }
        return left;
    }

    /** Those of the bits by which the LAMP would come from the trial's dusk to what was seen. */
    private int leftByNight(int lamp, int bits) {
        int left = bits;
        for (int liked = 0; liked <= MOST_LAMPS; liked++) {
            if ((left >>> liked & 1) != 0) {
                way.moveLamp(trial, lamp, liked == MOST_LAMPS ? NONE : liked);
                if (!isSeen(lamp)) {
                    left &= ~(1 << liked);
                }
            }
        }
        return left;
    }

    private boolean isSeen(int lamp) {
        for (int oil = 0; oil < OILS; oil++) {
            if (way.dawn[lamp * OILS + oil] != seen[oil]) {
                return false;
            }
        }
        return true;
    }

    private int drawLikes(int seed) {
        int nextSeed = seed;
        for (int lamp = 0; lamp < told.lamps; lamp++) {
            int choice = told.countAcross(lamp);
            drawn[lamp] = NONE;
            if (told.kind[lamp] != WIDOW && choice > 0) {
                nextSeed = nextSeed * 1103515245 + 12345;
                drawn[lamp] = told.findAcross(lamp, (nextSeed >>> 16 & 32767) % choice);
            }
        }
        return nextSeed;
    }

    /** A VALLEY as its TEXT tells it. */
    private static final class Told {
        int full;
        int lamps;
        int step;
        int near;
        int fright;
        int easter;
        int fogs;
        final int[] kind = new int[MOST_LAMPS];
        final int[] side = new int[MOST_LAMPS];
        final int[] likes = new int[MOST_LAMPS];
        final int[] oils = new int[ROW];
        final int[] fogNight = new int[MOST_FOGS];
        final int[] fogEye = new int[MOST_FOGS];
        final int[] fogHidden = new int[MOST_FOGS];

        Told() {
            forget();
        }

        void forget() {
            full = 12;
            lamps = 0;
            step = 1;
            near = 0;
            fright = 0;
            easter = 40;
            fogs = 0;
        }

        void addLamp(int newKind, int newSide, int red, int green) {
            if (lamps < MOST_LAMPS) {
                kind[lamps] = newKind;
                side[lamps] = newSide;
                likes[lamps] = NONE;
                oils[lamps * OILS] = red;
                oils[lamps * OILS + 1] = green;
                oils[lamps * OILS + 2] = full - red - green;
                lamps++;
            }
        }

        void addFog(int night, int eye, int hidden) {
            if (fogs < MOST_FOGS) {
                fogNight[fogs] = night;
                fogEye[fogs] = eye;
                fogHidden[fogs] = hidden;
                fogs++;
            }
        }

        boolean hides(int night, int eye, int hidden) {
            for (int fog = 0; fog < fogs; fog++) {
                if (fogNight[fog] == night && fogEye[fog] == eye && fogHidden[fog] == hidden) {
                    return true;
                }
            }
            return false;
        }

        int findLastFog() {
            int last = NONE;
            for (int fog = 0; fog < fogs; fog++) {
                last = Math.max(last, fogNight[fog]);
            }
            return last;
        }

        int countAcross(int lamp) {
            int across = 0;
            for (int other = 0; other < lamps; other++) {
                if (side[other] != side[lamp]) {
                    across++;
                }
            }
            return across;
        }

        /** The LAMP of the other SIDE that has so many lesser ones there. */
        int findAcross(int lamp, int lesser) {
            int passed = 0;
            for (int other = 0; other < lamps; other++) {
                if (side[other] != side[lamp]) {
                    if (passed == lesser) {
                        return other;
                    }
                    passed++;
                }
            }
            return NONE;
        }
    }

    /** Reads a TEXT into a Told, up to its first FAULT. */
    private static final class Reader {
        private static final int WORD = 0;
        private static final int NUMBER = 1;
        private static final int SEMICOLON = 2;
        private static final int OTHER = 3;
        private static final int END = 4;

        /** A KIND's word stands at its number; behind them the words as numbered below. */
        private static final String WORDS =
                "plain shy bold drunk widow full likes step near fright easter fog ";
        private static final int FULL_WORD = 5;
        private static final int LIKES_WORD = 6;
        private static final int STEP_WORD = 7;
        private static final int NEAR_WORD = 8;
        private static final int FRIGHT_WORD = 9;
        private static final int EASTER_WORD = 10;
        private static final int FOG_WORD = 11;

        private static final int CANT_STAND = 1;
        private static final int TOO_MUCH = 2;
        private static final int NO_LAMP = 3;
        private static final int OUT_OF_TURN = 4;
        private static final int ALIKE = 5;

        int wrong;
        int place;
        private final int[] text;
        private int length;
        private int token;
        private int start;
        private int behind;
        private int lastStart;
        private int wordsTold;
        private Told into;

        Reader(int[] bytes, Told first) {
            text = bytes;
            into = first;
        }

        void read(int count, Told target) {
            length = Math.min(count, text.length);
            into = target;
            into.forget();
            wrong = 0;
            place = NONE;
            behind = 0;
            wordsTold = 0;
            advance();
            for (int line = 0; line <= length && wrong == 0 && token != END; line++) {
                readLine(line);
            }
        }

        private void refuse(int fault, int at) {
            if (wrong == 0) {
                wrong = fault;
                place = at;
            }
        }

        private void advance() {
            lastStart = start;
            start = behind;
            while (start < length && (text[start] == ' ' || text[start] == '\n')) {
                start++;
            }
            behind = start;
            token = classify(start);
            if (token == WORD || token == NUMBER) {
                while (behind < length && classify(behind) == token) {
                    behind++;
                }
            } else if (token != END) {
                behind++;
            }
        }

        private int classify(int at) {
            if (at >= length) {
                return END;
            }
            int sign = text[at];
            if (sign >= 'a' && sign <= 'z') {
                return WORD;
            }
            if (sign >= '0' && sign <= '9') {
                return NUMBER;
            }
            return sign == ';' ? SEMICOLON : OTHER;
        }

        private void readLine(int line) {
            int word = findWord();
            int fault = judgeWord(word, line);
            if (fault != 0) {
                refuse(fault, start);
                return;
            }
            wordsTold |= 1 << word;
            advance();
            if (word <= WIDOW) {
                readKind(word);
            } else if (word == LIKES_WORD) {
                readLikes();
            } else if (word == FOG_WORD) {
                readFog();
            } else {
                readSetting(word);
            }
            if (token != SEMICOLON) {
                refuse(CANT_STAND, start);
            }
            advance();
        }

        private int findWord() {
            if (token != WORD) {
                return NONE;
            }
            int number = 0;
            int first = 0;
            for (int at = 0; at < WORDS.length(); at++) {
                if (WORDS.charAt(at) == ' ') {
                    if (isSpelt(first, at)) {
                        return number;
                    }
                    number++;
                    first = at + 1;
                }
            }
            return NONE;
        }

        private boolean isSpelt(int first, int last) {
            if (last - first != behind - start) {
                return false;
            }
            for (int at = first; at < last; at++) {
                if (WORDS.charAt(at) != text[start + at - first]) {
                    return false;
                }
            }
            return true;
        }

        private int judgeWord(int word, int line) {
            if (word == NONE) {
                return CANT_STAND;
            }
            if (word <= WIDOW) {
                return into.lamps >= MOST_LAMPS ? TOO_MUCH : 0;
            }
            if (word == FOG_WORD) {
                return into.fogs >= MOST_FOGS ? TOO_MUCH : 0;
            }
            if (word == LIKES_WORD) {
                return 0;
            }
            boolean late = word == FULL_WORD ? line > 0 : (wordsTold >>> word & 1) != 0;
            return late ? OUT_OF_TURN : 0;
        }

        private void readKind(int kind) {
            int side = readNumber(0, 1, TOO_MUCH);
            int red = readNumber(0, into.full, TOO_MUCH);
            int green = readNumber(0, into.full - red, TOO_MUCH);
            if (wrong == 0) {
                into.addLamp(kind, side, red, green);
            }
        }

        private void readLikes() {
            int liking = readLamp();
            if (wrong == 0 && into.likes[liking] != NONE) {
                refuse(ALIKE, lastStart);
            }
            int liked = readLamp();
            if (liked == liking) {
                refuse(ALIKE, lastStart);
            }
            if (wrong == 0) {
                into.likes[liking] = liked;
            }
        }

        private void readFog() {
            int night = readNumber(0, MOST_NIGHTS, TOO_MUCH);
            int eye = readLamp();
            int hidden = readLamp();
            if (eye == hidden) {
                refuse(ALIKE, lastStart);
            }
            if (wrong == 0) {
                into.addFog(night, eye, hidden);
            }
        }

        private void readSetting(int word) {
            switch (word) {
                case FULL_WORD: into.full = readNumber(1, MOST_PARTS, TOO_MUCH); break;
                case STEP_WORD: into.step = readNumber(1, 9, TOO_MUCH); break;
                case NEAR_WORD: into.near = readNumber(0, 9, TOO_MUCH); break;
                case FRIGHT_WORD: into.fright = readNumber(0, 9, TOO_MUCH); break;
                case EASTER_WORD: into.easter = readNumber(1, MOST_NIGHTS, TOO_MUCH); break;
                default: break;
            }
        }

        private int readLamp() {
            return readNumber(0, into.lamps - 1, NO_LAMP);
        }

        /** The next NUMBER, or the least one behind a FAULT. */
        private int readNumber(int least, int most, int beyond) {
            int number = 0;
            for (int at = start; at < behind && token == NUMBER; at++) {
                number = number * 10 + text[at] - '0';
            }
            if (token != NUMBER) {
                refuse(CANT_STAND, start);
            } else if (behind - start > 3) {
                refuse(TOO_MUCH, start);
            } else if (number < least || number > most) {
                refuse(beyond, start);
            }
            if (wrong != 0) {
                return least;
            }
            advance();
            return number;
        }
    }

    /** All LAMPS at one dusk. */
    private static final class Scene {
        final int[] oils = new int[ROW];
        final int[] spouse = new int[MOST_LAMPS];
        final int[] wedding = new int[MOST_LAMPS];
        int night;
        int out;
        int couples;

        void begin(Told told) {
            System.arraycopy(told.oils, 0, oils, 0, ROW);
            night = 0;
            out = 0;
            couples = 0;
            for (int lamp = 0; lamp < MOST_LAMPS; lamp++) {
                spouse[lamp] = NONE;
                wedding[lamp] = NONE;
            }
        }

        void take(Scene other) {
            System.arraycopy(other.oils, 0, oils, 0, ROW);
            System.arraycopy(other.spouse, 0, spouse, 0, MOST_LAMPS);
            System.arraycopy(other.wedding, 0, wedding, 0, MOST_LAMPS);
            night = other.night;
            out = other.out;
            couples = other.couples;
        }

        boolean isOut(int lamp) {
            return (out >>> lamp & 1) != 0;
        }

        int apart(int lamp, int other) {
            int differ = 0;
            for (int oil = 0; oil < OILS; oil++) {
                int more = oils[lamp * OILS + oil] - oils[other * OILS + oil];
                differ += more < 0 ? -more : more;
            }
            return differ / 2;
        }

        boolean pour(int lamp, int from, int to) {
            if (oils[lamp * OILS + from] == 0) {
                return false;
            }
            oils[lamp * OILS + from]--;
            oils[lamp * OILS + to]++;
            return true;
        }

        void marryAll(Told told) {
            for (int lamp = 0; lamp < told.lamps; lamp++) {
                for (int other = lamp + 1; other < told.lamps && !isOut(lamp); other++) {
                    if (!isOut(other) && told.side[other] != told.side[lamp]
                            && apart(lamp, other) <= told.near) {
                        marry(lamp, other);
                    }
                }
            }
        }

        private void marry(int lamp, int other) {
            spouse[lamp] = other;
            spouse[other] = lamp;
            wedding[lamp] = night;
            wedding[other] = night;
            out |= 1 << lamp | 1 << other;
            couples++;
        }

        /** Weddings of that NIGHT and of later ones haven't been. */
        void partSince(int undone) {
            for (int lamp = 0; lamp < MOST_LAMPS; lamp++) {
                if (wedding[lamp] >= undone) {
                    spouse[lamp] = NONE;
                    wedding[lamp] = NONE;
                    out &= ~(1 << lamp);
                }
            }
            couples = Integer.bitCount(out) / 2;
            night = undone;
        }

        /** Red and green tell the blue; 5 bits hold the 30 parts of each. */
        long packColours() {
            long packed = 0;
            for (int lamp = 0; lamp < MOST_LAMPS; lamp++) {
                packed = packed << 10 | oils[lamp * OILS] << 5 | oils[lamp * OILS + 1];
            }
            return packed;
        }
    }

    /** What AN IMAGE keeps: LAMPS, the NIGHT, THE BOOK, STATUS. */
    private static final class Story {
        final Scene scene = new Scene();
        final int[] dusks = new int[MOST_NIGHTS * ROW];
        final int[] dawns = new int[(MOST_NIGHTS + 1) * ROW];
        final int[] refused = new int[STATUS];

        void begin(Told told) {
            scene.begin(told);
            System.arraycopy(scene.oils, 0, dawns, 0, ROW);
        }

        void take(Story other) {
            scene.take(other.scene);
            System.arraycopy(other.dusks, 0, dusks, 0, dusks.length);
            System.arraycopy(other.dawns, 0, dawns, 0, dawns.length);
            System.arraycopy(other.refused, 0, refused, 0, STATUS);
        }

        void writeDusk() {
            if (scene.night < MOST_NIGHTS) {
                System.arraycopy(scene.oils, 0, dusks, scene.night * ROW, ROW);
            }
        }

        void writeDawn() {
            if (scene.night <= MOST_NIGHTS) {
                System.arraycopy(scene.oils, 0, dawns, scene.night * ROW, ROW);
            }
        }

        void goBack(int nights) {
            scene.partSince(scene.night - nights);
            System.arraycopy(dawns, scene.night * ROW, scene.oils, 0, ROW);
        }

        /** Only what a LAMP's move asks for: OILS, the NIGHT, who was OUT. */
        void readDusk(int night, Scene into) {
            into.take(scene);
            into.partSince(night);
            System.arraycopy(dusks, night * ROW, into.oils, 0, ROW);
        }

        void readDawn(int night, int lamp, int[] into) {
            System.arraycopy(dawns, (night + 1) * ROW + lamp * OILS, into, 0, OILS);
        }
    }

    /** The way that LAMPS go in a NIGHT, whom they LIKE and LAWS being given. */
    private static final class Way {
        final int[] dawn = new int[ROW];
        private Told told;
        private int[] likes;
        private int step;
        private boolean noGreen;

        Way(Told first) {
            told = first;
            likes = first.likes;
            step = first.step;
        }

        void obey(Told nowTold, int[] nowLikes, int laws) {
            told = nowTold;
            likes = nowLikes;
            step = (laws & HALF_STEPS) != 0 ? (told.step + 1) / 2 : told.step;
            noGreen = (laws & NO_GREEN) != 0;
        }

        /** NIGHTS up to EASTER, but no more once nothing could change for these LAMPS. */
        void goToEaster(Scene scene, int lamps) {
            int lastFog = told.findLastFog();
            int still = 0;
            for (int night = scene.night; night < told.easter; night++) {
                // An even and an odd NIGHT without FOG stand for all that follow.
                if ((lamps & ~scene.out) == 0 || still == 2) {
                    return;
                }
                boolean changed = passNight(scene);
                still = changed || night <= lastFog ? 0 : still + 1;
            }
        }

        /** The NIGHT in which the LAMP marries whom it LIKES, or NONE. */
        int findWedding(Scene scene, int lamp) {
            boolean isLiked = likes[lamp] != NONE && scene.spouse[lamp] == likes[lamp];
            return isLiked ? scene.wedding[lamp] : NONE;
        }

        /** Whether a LAMP moved or married. */
        boolean passNight(Scene scene) {
            int couples = scene.couples;
            boolean moved = false;
            for (int lamp = 0; lamp < told.lamps; lamp++) {
                moveLamp(scene, lamp, likes[lamp]);
            }
            for (int i = 0; i < told.lamps * OILS; i++) {
                moved |= scene.oils[i] != dawn[i];
                scene.oils[i] = dawn[i];
            }
            scene.marryAll(told);
            scene.night++;
            return moved || scene.couples != couples;
        }

        /** Writes into dawn what the LAMP would become by dawn if it LIKED that one. */
        void moveLamp(Scene dusk, int lamp, int liked) {
            System.arraycopy(dusk.oils, lamp * OILS, dawn, lamp * OILS, OILS);
            if (dusk.isOut(lamp) || isHeld(dusk, lamp)) {
                return;
            }
            int goal = findGoal(dusk, lamp, liked);
            if (goal != NONE) {
                goTowards(dusk, lamp, goal);
            }
            if (told.kind[lamp] == DRUNK) {
                stagger(lamp);
            }
        }

        private boolean isHeld(Scene dusk, int lamp) {
            int kind = told.kind[lamp];
            if (kind == WIDOW || kind == SHY && dusk.night % 2 == 0) {
                return true;
            }
            for (int other = 0; other < told.lamps; other++) {
                if (told.kind[other] == WIDOW && !dusk.isOut(other)
                        && dusk.apart(lamp, other) <= told.fright) {
                    return true;
                }
            }
            return false;
        }

        private int findGoal(Scene dusk, int lamp, int liked) {
            if (liked == NONE || dusk.isOut(liked)) {
                return NONE;
            }
            if (!told.hides(dusk.night, lamp, liked)) {
                return liked;
            }
            int nearest = NONE;
            int least = MOST_PARTS + 1;
            for (int other = 0; other < told.lamps; other++) {
                if (other != lamp && !dusk.isOut(other) && dusk.apart(lamp, other) < least
                        && !told.hides(dusk.night, lamp, other)) {
                    nearest = other;
                    least = dusk.apart(lamp, other);
                }
            }
            return nearest;
        }

        private void goTowards(Scene dusk, int lamp, int goal) {
            int at = lamp * OILS;
            int times = told.kind[lamp] == BOLD ? 2 * step : step;
            for (int i = 0; i < times; i++) {
                int from = 0;
                int to = 0;
                for (int oil = 1; oil < OILS; oil++) {
                    int more = dawn[at + oil] - dusk.oils[goal * OILS + oil];
                    if (more > dawn[at + from] - dusk.oils[goal * OILS + from]) {
                        from = oil;
                    }
                    if (more < dawn[at + to] - dusk.oils[goal * OILS + to]) {
                        to = oil;
                    }
                }
                // All three differ by 0 when none differs by most.
                if (from == to || noGreen && to == GREEN) {
                    return;
                }
                dawn[at + from]--;
                dawn[at + to]++;
            }
        }

        private void stagger(int lamp) {
            int at = lamp * OILS;
            int from = 0;
            for (int oil = 1; oil < OILS; oil++) {
                if (dawn[at + oil] > dawn[at + from]) {
                    from = oil;
                }
            }
            int to = from == OILS - 1 ? 0 : from + 1;
            if (!noGreen || to != GREEN) {
                dawn[at + from]--;
                dawn[at + to]++;
            }
        }
    }

    /** MOTHERS of some LAMPS, and when their children marry by each ROW of DROPS. */
    private static final class Council {
        static final int MOST = 3;
        private static final int CHOICES = 7;
        private static final int MOST_ROWS = 343;
        private static final int NEVER = 1000;
        private static final int CANT_BE = 1001;
        private static final int[] DROP_NUMBERS = {NONE, 1, 2, 3, 5, 6, 7};

        private final int[] child = new int[MOST];
        private final int[] stride = new int[MOST];
        private final int[] weddings = new int[MOST_ROWS * MOST];
        private int mothers;
        private int rows;

        /** Plays all ROWS of these LAMPS' mothers, from now on, each in the trial. */
        void hear(Way way, Scene now, Scene trial, int lamps) {
            seat(lamps);
            for (int row = 0; row < rows; row++) {
                trial.take(now);
                boolean canBe = giveRow(trial, row);
                if (canBe) {
                    way.goToEaster(trial, lamps);
                }
                for (int i = 0; i < mothers; i++) {
                    int night = canBe ? way.findWedding(trial, child[i]) : CANT_BE;
                    weddings[row * MOST + i] = night == NONE ? NEVER : night;
                }
            }
        }

        /** The least LAMP's mother counts highest in a ROW's number. */
        private void seat(int lamps) {
            mothers = 0;
            rows = 1;
            for (int lamp = MOST_LAMPS - 1; lamp >= 0; lamp--) {
                if ((lamps >>> lamp & 1) != 0 && mothers < MOST) {
                    child[mothers] = lamp;
                    stride[mothers] = rows;
                    rows *= CHOICES;
                    mothers++;
                }
            }
        }

        private int choiceOf(int row, int mother) {
            return stride[mother] > 0 ? row / stride[mother] % CHOICES : 0;
        }

        private boolean giveRow(Scene trial, int row) {
            for (int i = 0; i < mothers; i++) {
                int number = DROP_NUMBERS[choiceOf(row, i)];
                if (number != NONE && !trial.pour(child[i], number / OILS, number % OILS)) {
                    return false;
                }
            }
            return true;
        }

        private boolean rests(int row) {
            for (int i = 0; i < mothers; i++) {
                int night = weddings[row * MOST + i];
                if (night == CANT_BE) {
                    return false;
                }
                int none = row - choiceOf(row, i) * stride[i];
                for (int choice = 0; choice < CHOICES; choice++) {
                    if (weddings[(none + choice * stride[i]) * MOST + i] < night) {
                        return false;
                    }
                }
            }
            return true;
        }

        int countRests() {
            int count = 0;
            for (int row = 0; row < rows; row++) {
                if (rests(row)) {
                    count++;
                }
            }
            return count;
        }

        int firstRest() {
            for (int row = 0; row < rows; row++) {
                if (rests(row)) {
                    return writeFigures(row);
                }
            }
            return NONE;
        }

        private int writeFigures(int row) {
            int figures = 0;
            for (int i = mothers - 1; i >= 0; i--) {
                figures = figures * 10 + DROP_NUMBERS[choiceOf(row, i)] + 1;
            }
            return figures;
        }

        /** With one mother only: the first choice by which her child marries soonest. */
        int bestOfOne() {
            int best = 0;
            for (int row = 1; row < CHOICES; row++) {
                if (weddings[row * MOST] < weddings[best * MOST]) {
                    best = row;
                }
            }
            return best;
        }

        int dropOf(int choice) {
            return choice >= 0 && choice < CHOICES ? DROP_NUMBERS[choice] : NONE;
        }

        int weddingOf(int row) {
            int night = row >= 0 && row < MOST_ROWS ? weddings[row * MOST] : NEVER;
            return night == NEVER ? NONE : night;
        }
    }
}
