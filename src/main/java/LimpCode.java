import java.util.Arrays;

/** Messages that are walked over listeners' heads: the document's promises, one method each. */
public final class LimpCode {
    /** There is none. */
    public static final int NONE = -1;

    private static final int NO_SUCH_EAR = -2;
    private static final int SPENT = -2;

    private static final int MOST_BYTES = 1600;
    private static final int FED_BYTES = 20;
    private static final int MOST_STEPS = 6;
    private static final int MOST_LETTERS = 10;
    private static final int MOST_EARS = 4;
    private static final int MOST_IN_LETTER = 5;
    private static final int MOST_TAKEN = 9;
    private static final int LOUDEST = 9;
    private static final int MOST_FLOORS = 9;
    private static final int MOST_TIME = 60;
    private static final int MOST_TIMED = 31;
    private static final int MOST_MISSED = 3;
    private static final int MOST_SOUNDS = 30;
    private static final int MOST_LATER = 1000;
    private static final int LAST_TIME_OF_DAY = 100000;
    private static final int TEXTS = 2;
    private static final int BOXES = 3;
    private static final int MOST_TRIED = 500;
    private static final long MOST_COUNTED = 1000000000000000L;

    private static final int LEFT = 0;
    private static final int RIGHT = 1;
    private static final int EITHER = 2;
    private static final int STILL = 3;

    private static final int ALL_LETTERS = (1 << MOST_LETTERS) - 1;

    /** A cost that no number of missed moments pays; five of them still add up without harm. */
    private static final int CANNOT = 100;

    private final Tape tape;
    private final SchoolReader reader;
    private School now;
    private School spare;
    private final Earnest earnest;
    private final Earnest[] boxes;
    private final Text[] texts;
    private final Sounds sounds;
    private final Bounds bounds;
    private final Grid steps;
    private final Grid letters;
    private final Listener listener;
    private final SecretSearch search;
    private final Deal deal;
    private final int[] firstHeard;
    private final int[] secondHeard;
    private final int[] lying;
    private int lyingSize;
    private int timeOfDay;

    public LimpCode() {
        tape = new Tape();
        reader = new SchoolReader();
        now = new School();
        spare = new School();
        earnest = new Earnest();
        boxes = new Earnest[BOXES];
        for (int i = 0; i < BOXES; i++) {
            boxes[i] = new Earnest();
        }
        texts = new Text[TEXTS];
        for (int i = 0; i < TEXTS; i++) {
            texts[i] = new Text();
        }
        sounds = new Sounds();
        bounds = new Bounds();
        steps = new Grid(MOST_STEPS);
        letters = new Grid(MOST_LETTERS);
        listener = new Listener();
        search = new SecretSearch();
        deal = new Deal();
        firstHeard = new int[MOST_TIME];
        secondHeard = new int[MOST_TIME];
        lying = new int[MOST_TIME];
    }

    public int feed(int a, int b, int c, int d, int e) {
        if (!tape.hasRoomFor(FED_BYTES)) {
            return NONE;
        }
        tape.put(a);
        tape.put(b);
        tape.put(c);
        tape.put(d);
        tape.put(e);
        return tape.size;
    }

    public int end(int n) {
        if (n < 0 || n > tape.size) {
            return NONE;
        }
        tape.size = n;
        return n;
    }

    public int school() {
        boolean faultless = reader.readSchool(tape, spare);
        tape.size = 0;
        if (!faultless) {
            return NONE;
        }
        School old = now;
        now = spare;
        spare = old;
        forgetAllOfOldSchool();
        return now.letterCount;
    }

    private void forgetAllOfOldSchool() {
        earnest.begin(now);
        for (int i = 0; i < BOXES; i++) {
            boxes[i].kept = false;
        }
        for (int i = 0; i < TEXTS; i++) {
            texts[i].clear();
        }
        sounds.count = 0;
        lyingSize = 0;
    }

    public int fault(int what) {
        if (what == 0) {
            return reader.fault;
        }
        return what == 1 ? reader.faultPlace : NONE;
    }

    public int step(int step) {
        return earnest.walkOn(now, step) ? earnest.time : NONE;
    }

    public int say(int text) {
        if (!isText(text)) {
            return NONE;
        }
        return earnest.walkAll(now, texts[text]) ? earnest.time : NONE;
    }

    public int stop() {
        int took = earnest.time;
        earnest.standStill();
        return took;
    }

    public int heard(int ear, int moment) {
        if (!now.hasEar(ear) || moment < 0 || moment >= earnest.time) {
            return NONE;
        }
        earnest.hearWalk(now, ear, firstHeard);
        return firstHeard[moment];
    }

    public long reads(int ear, int missed) {
        lyingSize = 0;
        if (!now.hasEar(ear) || missed < 0 || missed > MOST_MISSED) {
            return NONE;
        }
        earnest.hearWalk(now, ear, firstHeard);
        bounds.open();
        bounds.fix(ear, firstHeard, earnest.time);
        steps.fillSteps(now, earnest.loud, bounds, earnest.time);
        letters.fillLetters(now, steps, now.books[ear], earnest.time);
        return countAndLay(letters, earnest.time, missed);
    }

    public int stuck(int ear) {
        if (!now.hasEar(ear)) {
            return NO_SUCH_EAR;
        }
        earnest.hearWalk(now, ear, firstHeard);
        listener.learn(now, earnest.loud, ear);
        return listener.firstUnheard(now, firstHeard, earnest.time);
    }

    public int alike(int ear, int a, int b, int foot) {
        if (!now.hasEar(ear) || !now.hasLetter(a) || !now.hasLetter(b)) {
            return NONE;
        }
        if (foot != LEFT && foot != RIGHT) {
            return NONE;
        }
        if (now.letterAfter[a][foot] == NONE || now.letterAfter[b][foot] == NONE) {
            return 0;
        }
        listener.learn(now, earnest.loud, ear);
        return listener.soundsSame(now, a, b) ? 1 : 0;
    }

    public int tell(int text, int letter) {
        if (!isText(text)) {
            return NONE;
        }
        return texts[text].add(now, letter) ? texts[text].time : NONE;
    }

    public int hush(int text) {
        if (!isText(text)) {
            return NONE;
        }
        int had = texts[text].size;
        texts[text].clear();
        return had;
    }

    public long doubled(int a, int b) {
        lyingSize = 0;
        if (!areUnlikeEars(a, b)) {
            return NONE;
        }
        if (texts[0].time != texts[1].time) {
            return 0;
        }
        fillDouble(a, b);
        return countAndLay(steps, texts[0].time, 0);
    }

    public int secret(int a, int b, int third) {
        lyingSize = 0;
        if (!areUnlikeEars(a, b) || third == a || third == b) {
            return NONE;
        }
        if (third != NONE && !now.hasEar(third)) {
            return NONE;
        }
        if (texts[0].time != texts[1].time) {
            return 0;
        }
        fillDouble(a, b);
        long walks = countAndLay(steps, texts[0].time, 0);
        if (walks == 0 || third == NONE) {
            return walks == 0 ? 0 : 1;
        }
        listener.learn(now, earnest.loud, third);
        int found = search.seek(now, steps, listener, walks);
        lyingSize = found == 1 ? search.copyWalk(lying) : 0;
        return found;
    }

    /** Both texts take the same time here. */
    private void fillDouble(int a, int b) {
        int time = texts[0].time;
        texts[0].hearText(now, earnest.loud, a, firstHeard);
        texts[1].hearText(now, earnest.loud, b, secondHeard);
        bounds.open();
        bounds.fix(a, firstHeard, time);
        bounds.fix(b, secondHeard, time);
        steps.fillSteps(now, earnest.loud, bounds, time);
    }

    public int lies(int i) {
        return i >= 0 && i < lyingSize && i < lying.length ? lying[i] : NONE;
    }

    public long timed(int time, int set) {
        if (time < 0 || time > MOST_TIMED) {
            return NONE;
        }
        steps.fillTimed(now, set, time);
        letters.fillLetters(now, steps, ALL_LETTERS, time);
        return letters.countWays(time, 0);
    }

    public int dealt() {
        lyingSize = now.letterCount;
        return deal.dealRows(now, texts[0], lying);
    }

    public int limp(int what) {
        if (what != 0 && what != 1) {
            return NONE;
        }
        int left = earnest.takenBy(now, LEFT);
        int right = earnest.takenBy(now, RIGHT);
        int common = commonDivisor(Math.abs(left - right), left + right);
        if (common == 0) {
            return what;
        }
        return what == 0 ? (left - right) / common : (left + right) / common;
    }

    public int cobble(int step, int by) {
        if (!now.hasStep(step) || by < -LOUDEST || by > LOUDEST) {
            return NONE;
        }
        int louder = earnest.loud[step] + by;
        if (louder < 0 || louder > LOUDEST) {
            return NONE;
        }
        earnest.loud[step] = louder;
        return louder;
    }

    public int sound(int ear, int moment, int least, int most) {
        if (!now.hasEar(ear) || moment < 0 || moment >= MOST_TIME) {
            return NONE;
        }
        if (least < 0 || most > LOUDEST || most < least) {
            return NONE;
        }
        return sounds.add(ear, moment, least, most, timeOfDay);
    }

    public boolean untell(int sound) {
        return sounds.takeBack(sound, timeOfDay);
    }

    public int later(int by) {
        if (by < 0 || by > MOST_LATER || timeOfDay + by > LAST_TIME_OF_DAY) {
            return NONE;
        }
        timeOfDay += by;
        return timeOfDay;
    }

    public long meant(int time, int k) {
        lyingSize = 0;
        if (time < 0 || time > MOST_TIME) {
            return NONE;
        }
        return fillMeant(time, k) ? countAndLay(letters, time, 0) : 0;
    }

    public int can(int time, int place, int k) {
        if (time < 0 || time > MOST_TIME || place < 0 || place >= MOST_TIME) {
            return NONE;
        }
        if (!fillMeant(time, k)) {
            return 0;
        }
        letters.countWays(time, 0);
        return letters.standingAt(place);
    }

    /** False if a sound behind the end rules every text out. */
    private boolean fillMeant(int time, int k) {
        bounds.open();
        sounds.narrowAsKnown(bounds, k);
        if (!bounds.areQuietFrom(time)) {
            return false;
        }
        steps.fillSteps(now, earnest.loud, bounds, time);
        letters.fillLetters(now, steps, ALL_LETTERS, time);
        return true;
    }

    public int image(int box) {
        if (!isBox(box)) {
            return NONE;
        }
        boxes[box].copyFrom(earnest);
        boxes[box].kept = true;
        return earnest.time;
    }

    public int back(int box) {
        if (!isBox(box) || !boxes[box].kept) {
            return NONE;
        }
        earnest.copyFrom(boxes[box]);
        return earnest.time;
    }

    public int about(int what) {
        switch (what) {
            case 0: return now.stepCount;
            case 1: return now.letterCount;
            case 2: return now.earCount;
            case 3: return earnest.time;
            case 4: return earnest.size;
            case 5: return earnest.foot;
            case 6: return texts[0].size;
            case 7: return texts[1].size;
            case 8: return sounds.count;
            case 9: return timeOfDay;
            case 10: return tape.size;
            case 11: return lyingSize;
            default: return NONE;
        }
    }

    private long countAndLay(Grid grid, int time, int missed) {
        long ways = grid.countWays(time, missed);
        lyingSize = ways == 0 ? 0 : grid.layFirst(lying);
        return ways;
    }

    private boolean areUnlikeEars(int a, int b) {
        return now.hasEar(a) && now.hasEar(b) && a != b;
    }

    private static boolean isText(int text) {
        return text >= 0 && text < TEXTS;
    }

    private static boolean isBox(int box) {
        return box >= 0 && box < BOXES;
    }

    private static int commonDivisor(int a, int b) {
        int high = a;
        int low = b;
        for (int i = 0; i < MOST_TIME && low != 0; i++) {
            int rest = high % low;
            high = low;
            low = rest;
        }
        return high;
    }

    /** Writes one step into a row of moments, as far as the row goes, and tells the moment behind it. */
    private static int putStep(int[] into, int from, int heardFirst, int takes) {
        int behind = Math.min(from + takes, into.length);
        for (int m = from; m < behind; m++) {
            into[m] = m == from ? heardFirst : 0;
        }
        return behind;
    }

    /** The bytes fed, and the token that is read of them. */
    private static final class Tape {
        static final int THE_END = 0;
        static final int WORD = 1;
        static final int NUMBER = 2;
        static final int SEMICOLON = 3;
        static final int NO_TOKEN = 4;

        private static final int LONGEST_WORD = 8;
        private static final int MOST_DIGITS = 4;
        private static final int BITS_A_LETTER = 5;

        final byte[] bytes = new byte[MOST_BYTES];
        int size;
        int kind;
        int place;
        int behind;
        long word;
        int number;

        boolean hasRoomFor(int more) {
            return size + more <= bytes.length;
        }

        void put(int four) {
            for (int shift = 24; shift >= 0; shift -= 8) {
                if (size < bytes.length) {
                    bytes[size] = (byte) (four >> shift);
                    size++;
                }
            }
        }

        void rewind() {
            behind = 0;
            readNext();
        }

        void readNext() {
            place = behind;
            while (place < size && isBlank(byteAt(place))) {
                place++;
            }
            behind = place;
            int first = byteAt(place);
            if (place >= size) {
                kind = THE_END;
            } else if (first == ';') {
                kind = SEMICOLON;
                behind = place + 1;
            } else if (isLetter(first)) {
                readWord();
            } else if (isDigit(first)) {
                readNumber();
            } else {
                kind = NO_TOKEN;
            }
        }

        private void readWord() {
            word = 0;
            while (behind < size && isLetter(byteAt(behind))) {
                word = (word << BITS_A_LETTER) | (byteAt(behind) - 'a' + 1);
                behind++;
            }
            kind = behind - place > LONGEST_WORD ? NO_TOKEN : WORD;
        }

        private void readNumber() {
            number = 0;
            while (behind < size && isDigit(byteAt(behind))) {
                number = number * 10 + byteAt(behind) - '0';
                behind++;
            }
            boolean tooLong = behind - place > MOST_DIGITS;
            kind = tooLong || isLetter(byteAt(behind)) ? NO_TOKEN : NUMBER;
        }

        boolean isAt(String wanted) {
            if (kind != WORD || behind - place != wanted.length()) {
                return false;
            }
            for (int i = 0; i < wanted.length(); i++) {
                if (byteAt(place + i) != wanted.charAt(i)) {
                    return false;
                }
            }
            return true;
        }

        boolean isAtName() {
            return kind == WORD
                && !isAt("step") && !isAt("takes") && !isAt("loud")
                && !isAt("left") && !isAt("right") && !isAt("still")
                && !isAt("letter") && !isAt("ear") && !isAt("floors") && !isAt("book");
        }

        /** Behind the end there is a byte that begins no token. */
        private int byteAt(int at) {
            return at >= 0 && at < size && at < bytes.length ? bytes[at] : 0;
        }

        private static boolean isBlank(int b) {
            return b == ' ' || b == '\n';
        }

        private static boolean isLetter(int b) {
            return b >= 'a' && b <= 'z';
        }

        private static boolean isDigit(int b) {
            return b >= '0' && b <= '9';
        }
    }

    /** Reads lines of a school from a tape; what it reads into is of no use behind a fault. */
    private static final class SchoolReader {
        private static final int NO_TOKEN = 1;
        private static final int MISPLACED = 2;
        private static final int TOLD_ALREADY = 3;
        private static final int BAD_NUMBER = 4;
        private static final int UNKNOWN = 5;

        int fault;
        int faultPlace = NONE;
        int number;

        boolean readSchool(Tape tape, School school) {
            fault = 0;
            faultPlace = NONE;
            school.clear();
            tape.rewind();
            boolean faultless = true;
            for (int line = 0; line < MOST_BYTES && faultless && tape.kind != Tape.THE_END; line++) {
                if (tape.isAt("step")) {
                    faultless = readStep(tape, school);
                } else if (tape.isAt("letter")) {
                    faultless = readLetter(tape, school);
                } else if (tape.isAt("ear")) {
                    faultless = readEar(tape, school);
                } else {
                    faultless = refuse(tape, MISPLACED);
                }
            }
            return faultless;
        }

        private boolean readStep(Tape tape, School school) {
            int step = school.stepCount;
            if (step >= MOST_STEPS) {
                return refuse(tape, MISPLACED);
            }
            tape.readNext();
            if (!readNewName(tape, school.stepNames, step)) {
                return false;
            }
            if (!passWord(tape, "takes") || !passNumber(tape, 1, MOST_TAKEN)) {
                return false;
            }
            school.takes[step] = number;
            if (!passWord(tape, "loud") || !passNumber(tape, 0, LOUDEST)) {
                return false;
            }
            school.toldLoud[step] = number;
            school.sides[step] = readSide(tape);
            school.stepCount = step + 1;
            return passSemicolon(tape);
        }

        private int readSide(Tape tape) {
            int side = EITHER;
            if (tape.isAt("left")) {
                side = LEFT;
            } else if (tape.isAt("right")) {
                side = RIGHT;
            } else if (tape.isAt("still")) {
                side = STILL;
            }
            if (side != EITHER) {
                tape.readNext();
            }
            return side;
        }

        private boolean readLetter(Tape tape, School school) {
            int letter = school.letterCount;
            if (letter >= MOST_LETTERS) {
                return refuse(tape, MISPLACED);
            }
            tape.readNext();
            if (!readNewName(tape, school.letterNames, letter)) {
                return false;
            }
            int size = 0;
            while (size < MOST_IN_LETTER && (size == 0 || tape.kind != Tape.SEMICOLON)) {
                int step = knownName(tape, school.stepNames, school.stepCount);
                if (step == NONE) {
                    return false;
                }
                tape.readNext();
                school.letterRows[letter][size] = step;
                size++;
            }
            school.letterSizes[letter] = size;
            school.measureLetter(letter);
            school.letterCount = letter + 1;
            return passSemicolon(tape);
        }

        private boolean readEar(Tape tape, School school) {
            int ear = school.earCount;
            if (ear >= MOST_EARS) {
                return refuse(tape, MISPLACED);
            }
            tape.readNext();
            if (!readNewName(tape, school.earNames, ear)) {
                return false;
            }
            if (!passWord(tape, "floors") || !passNumber(tape, 0, MOST_FLOORS)) {
                return false;
            }
            school.floors[ear] = number;
            school.books[ear] = ALL_LETTERS;
            if (tape.isAt("book")) {
                tape.readNext();
                school.books[ear] = readBook(tape, school);
                if (school.books[ear] == NONE) {
                    return false;
                }
            }
            school.earCount = ear + 1;
            return passSemicolon(tape);
        }

        /** The letters as bits; NONE behind a fault. */
        private int readBook(Tape tape, School school) {
            int book = 0;
            for (int i = 0; i <= MOST_LETTERS; i++) {
                if (book != 0 && tape.kind == Tape.SEMICOLON) {
                    return book;
                }
                int letter = knownName(tape, school.letterNames, school.letterCount);
                if (letter == NONE) {
                    return NONE;
                }
                if ((book >> letter & 1) == 1) {
                    refuse(tape, TOLD_ALREADY);
                    return NONE;
                }
                tape.readNext();
                book |= 1 << letter;
            }
            return book;
        }

        private boolean readNewName(Tape tape, long[] names, int count) {
            if (!tape.isAtName() || count < 0 || count >= names.length) {
                return refuse(tape, MISPLACED);
            }
            if (find(names, count, tape.word) != NONE) {
                return refuse(tape, TOLD_ALREADY);
            }
            names[count] = tape.word;
            tape.readNext();
            return true;
        }

        /** The number of the name that the tape is at; NONE behind a fault. */
        private int knownName(Tape tape, long[] names, int count) {
            if (!tape.isAtName()) {
                refuse(tape, MISPLACED);
                return NONE;
            }
            int known = find(names, count, tape.word);
            if (known == NONE) {
                refuse(tape, UNKNOWN);
            }
            return known;
        }

        private static int find(long[] names, int count, long name) {
            for (int i = 0; i < count && i < names.length; i++) {
                if (names[i] == name) {
                    return i;
                }
            }
            return NONE;
        }

        private boolean passWord(Tape tape, String word) {
            if (!tape.isAt(word)) {
                return refuse(tape, MISPLACED);
            }
            tape.readNext();
            return true;
        }

        private boolean passNumber(Tape tape, int least, int most) {
            if (tape.kind != Tape.NUMBER) {
                return refuse(tape, MISPLACED);
            }
            if (tape.number < least || tape.number > most) {
                return refuse(tape, BAD_NUMBER);
            }
            number = tape.number;
            tape.readNext();
            return true;
        }

        private boolean passSemicolon(Tape tape) {
            if (tape.kind != Tape.SEMICOLON) {
                return refuse(tape, MISPLACED);
            }
            tape.readNext();
            return true;
        }

        /** Where there is no token at all, that is the least fault of the place. */
        private boolean refuse(Tape tape, int why) {
            fault = tape.kind == Tape.NO_TOKEN ? NO_TOKEN : why;
            faultPlace = tape.place;
            return false;
        }
    }

    /** Steps, letters and ears as told. */
    private static final class School {
        final long[] stepNames = new long[MOST_STEPS];
        final int[] takes = new int[MOST_STEPS];
        final int[] toldLoud = new int[MOST_STEPS];
        final int[] sides = new int[MOST_STEPS];
        final long[] letterNames = new long[MOST_LETTERS];
        final int[] letterSizes = new int[MOST_LETTERS];
        final int[][] letterRows = new int[MOST_LETTERS][MOST_IN_LETTER];
        final int[] letterTakes = new int[MOST_LETTERS];
        final int[][] letterAfter = new int[MOST_LETTERS][2];
        final long[] earNames = new long[MOST_EARS];
        final int[] floors = new int[MOST_EARS];
        final int[] books = new int[MOST_EARS];
        int stepCount;
        int letterCount;
        int earCount;

        void clear() {
            stepCount = 0;
            letterCount = 0;
            earCount = 0;
        }

        boolean hasStep(int step) {
            return step >= 0 && step < stepCount;
        }

        boolean hasLetter(int letter) {
            return letter >= 0 && letter < letterCount;
        }

        boolean hasEar(int ear) {
            return ear >= 0 && ear < earCount;
        }

        /** Whose turn it is behind a step; NONE if the step can't be by the foot. */
        int footAfter(int step, int foot) {
            if (!hasStep(step)) {
                return NONE;
            }
            int side = sides[step];
            if (side == STILL) {
                return foot;
            }
            return side == EITHER || side == foot ? 1 - foot : NONE;
        }

        int heardBelow(int loud, int ear) {
            return hasEar(ear) ? Math.max(0, loud - floors[ear]) : 0;
        }

        void measureLetter(int letter) {
            int time = 0;
            int left = LEFT;
            int right = RIGHT;
            for (int i = 0; i < letterSizes[letter]; i++) {
                int step = letterRows[letter][i];
                time += takes[step];
                left = left == NONE ? NONE : footAfter(step, left);
                right = right == NONE ? NONE : footAfter(step, right);
            }
            letterTakes[letter] = time;
            letterAfter[letter][LEFT] = left;
            letterAfter[letter][RIGHT] = right;
        }

        /** Writes what an ear hears in a letter into a row of moments, and tells the moment behind it. */
        int hearLetter(int letter, int[] loud, int ear, int[] into, int from) {
            int at = from;
            for (int i = 0; hasLetter(letter) && i < letterSizes[letter]; i++) {
                int step = letterRows[letter][i];
                at = putStep(into, at, heardBelow(loud[step], ear), takes[step]);
            }
            return at;
        }
    }

    /** The walk in earnest and how loud each step is now: all that an image keeps. */
    private static final class Earnest {
        final int[] row = new int[MOST_TIME];
        final int[] loud = new int[MOST_STEPS];
        int size;
        int time;
        int foot;
        boolean kept;

        void begin(School school) {
            standStill();
            System.arraycopy(school.toldLoud, 0, loud, 0, MOST_STEPS);
        }

        void standStill() {
            size = 0;
            time = 0;
            foot = LEFT;
        }

        void copyFrom(Earnest other) {
            System.arraycopy(other.row, 0, row, 0, MOST_TIME);
            System.arraycopy(other.loud, 0, loud, 0, MOST_STEPS);
            size = other.size;
            time = other.time;
            foot = other.foot;
        }

        boolean walkOn(School school, int step) {
            if (!school.hasStep(step) || size >= row.length) {
                return false;
            }
            int after = school.footAfter(step, foot);
            if (after == NONE || time + school.takes[step] > MOST_TIME) {
                return false;
            }
            row[size] = step;
            size++;
            time += school.takes[step];
            foot = after;
            return true;
        }

        boolean walkAll(School school, Text text) {
            int sizeBefore = size;
            int timeBefore = time;
            int footBefore = foot;
            for (int i = 0; i < text.size; i++) {
                if (!walkLetter(school, text.row[i])) {
                    size = sizeBefore;
                    time = timeBefore;
                    foot = footBefore;
                    return false;
                }
            }
            return true;
        }

        private boolean walkLetter(School school, int letter) {
            if (!school.hasLetter(letter)) {
                return false;
            }
            for (int i = 0; i < school.letterSizes[letter]; i++) {
                if (!walkOn(school, school.letterRows[letter][i])) {
                    return false;
                }
            }
            return true;
        }

        void hearWalk(School school, int ear, int[] into) {
            int at = 0;
            for (int i = 0; i < size; i++) {
                int step = row[i];
                at = putStep(into, at, school.heardBelow(loud[step], ear), school.takes[step]);
            }
        }

        int takenBy(School school, int whose) {
            int taken = 0;
            int turn = LEFT;
            for (int i = 0; i < size; i++) {
                int step = row[i];
                if (school.sides[step] != STILL) {
                    taken += turn == whose ? school.takes[step] : 0;
                    turn = 1 - turn;
                }
            }
            return taken;
        }
    }

    /** A text that can be walked. */
    private static final class Text {
        final int[] row = new int[MOST_TIME];
        int size;
        int time;
        int foot;

        void clear() {
            size = 0;
            time = 0;
            foot = LEFT;
        }

        boolean add(School school, int letter) {
            if (!school.hasLetter(letter) || size >= row.length) {
                return false;
            }
            int after = school.letterAfter[letter][foot];
            if (after == NONE || time + school.letterTakes[letter] > MOST_TIME) {
                return false;
            }
            row[size] = letter;
            size++;
            time += school.letterTakes[letter];
            foot = after;
            return true;
        }

        void hearText(School school, int[] loud, int ear, int[] into) {
            int at = 0;
            for (int i = 0; i < size; i++) {
                at = school.hearLetter(row[i], loud, ear, into, at);
            }
        }
    }

    /** Sounds told and untold, each with both times of day. */
    private static final class Sounds {
        private static final int NEVER = 2147483647;

        final int[] ears = new int[MOST_SOUNDS];
        final int[] moments = new int[MOST_SOUNDS];
        final int[] leasts = new int[MOST_SOUNDS];
        final int[] mosts = new int[MOST_SOUNDS];
        final int[] toldAt = new int[MOST_SOUNDS];
        final int[] untoldAt = new int[MOST_SOUNDS];
        int count;

        int add(int ear, int moment, int least, int most, int timeOfDay) {
            if (count >= MOST_SOUNDS) {
                return NONE;
            }
            ears[count] = ear;
            moments[count] = moment;
            leasts[count] = least;
            mosts[count] = most;
            toldAt[count] = timeOfDay;
            untoldAt[count] = NEVER;
            count++;
            return count - 1;
        }

        boolean takeBack(int sound, int timeOfDay) {
            if (sound < 0 || sound >= count || untoldAt[sound] != NEVER) {
                return false;
            }
            untoldAt[sound] = timeOfDay;
            return true;
        }

        void narrowAsKnown(Bounds bounds, int k) {
            for (int i = 0; i < count; i++) {
                boolean untold = untoldAt[i] != NEVER && untoldAt[i] <= k;
                if (toldAt[i] <= k && !untold) {
                    bounds.narrow(ears[i], moments[i], leasts[i], mosts[i]);
                }
            }
        }
    }

    /** The least and the most that each ear may hear in each moment. */
    private static final class Bounds {
        final int[][] least = new int[MOST_EARS][MOST_TIME];
        final int[][] most = new int[MOST_EARS][MOST_TIME];
        /** Most calls ask about one ear or two: the others, which may hear anything, are passed over. */
        final boolean[] narrowed = new boolean[MOST_EARS];

        void open() {
            for (int ear = 0; ear < MOST_EARS; ear++) {
                narrowed[ear] = false;
            }
        }

        void narrow(int ear, int moment, int low, int high) {
            if (ear < 0 || ear >= MOST_EARS || moment < 0 || moment >= MOST_TIME) {
                return;
            }
            if (!narrowed[ear]) {
                narrowed[ear] = true;
                Arrays.fill(least[ear], 0);
                Arrays.fill(most[ear], LOUDEST);
            }
            least[ear][moment] = Math.max(least[ear][moment], low);
            most[ear][moment] = Math.min(most[ear][moment], high);
        }

        void fix(int ear, int[] heard, int time) {
            for (int m = 0; m < time && m < heard.length; m++) {
                narrow(ear, m, heard[m], heard[m]);
            }
        }

        boolean areQuietFrom(int time) {
            for (int ear = 0; ear < MOST_EARS; ear++) {
                if (narrowed[ear] && !areQuiet(ear, time, MOST_TIME)) {
                    return false;
                }
            }
            return true;
        }

        private boolean areQuiet(int ear, int from, int behind) {
            for (int m = from; m < behind && m < MOST_TIME; m++) {
                if (least[ear][m] > 0) {
                    return false;
                }
            }
            return true;
        }

        /** How many moments are missed, to all ears, if a step begins in a moment; CANNOT if it can't. */
        int costOf(School school, int loud, int takes, int moment) {
            int cost = 0;
            for (int ear = 0; ear < school.earCount; ear++) {
                cost += narrowed[ear] ? costTo(ear, school.heardBelow(loud, ear), takes, moment) : 0;
            }
            return Math.min(cost, CANNOT);
        }

        private int costTo(int ear, int heard, int takes, int moment) {
            if (!areQuiet(ear, moment + 1, moment + takes) || heard < least[ear][moment]) {
                return CANNOT;
            }
            if (heard <= most[ear][moment]) {
                return 0;
            }
            return most[ear][moment] == 0 ? 1 : CANNOT;
        }
    }

    /** Things that are walked one behind the other (steps or letters), and how many rows of them fill a time. */
    private static final class Grid {
        final int[] takes;
        final int[][] after;
        final int[][] cost;
        final long[][] ways = new long[2 * (MOST_MISSED + 1)][MOST_TIME + 1];
        final long[] fits;
        final long[] alive = new long[2];
        final long[] reached = new long[2];
        final long[] reachedNext = new long[2];
        int count;
        int time;
        int missed;

        Grid(int most) {
            takes = new int[most];
            after = new int[most][2];
            cost = new int[most][MOST_TIME];
            fits = new long[most];
        }

        void fillSteps(School school, int[] loud, Bounds bounds, int wholeTime) {
            takeSteps(school);
            for (int s = 0; s < count; s++) {
                for (int t = 0; t < wholeTime; t++) {
                    boolean ends = t + takes[s] <= wholeTime;
                    cost[s][t] = ends ? bounds.costOf(school, loud[s], takes[s], t) : CANNOT;
                }
            }
        }

        void fillTimed(School school, int set, int wholeTime) {
            takeSteps(school);
            for (int s = 0; s < count; s++) {
                boolean still = school.sides[s] == STILL;
                for (int t = 0; t < wholeTime; t++) {
                    boolean begins = still || (set >> t & 1) == 1;
                    cost[s][t] = begins && t + takes[s] <= wholeTime ? 0 : CANNOT;
                }
            }
        }

        private void takeSteps(School school) {
            count = school.stepCount;
            for (int s = 0; s < count; s++) {
                takes[s] = school.takes[s];
                after[s][LEFT] = school.footAfter(s, LEFT);
                after[s][RIGHT] = school.footAfter(s, RIGHT);
            }
        }

        void fillLetters(School school, Grid steps, int book, int wholeTime) {
            count = school.letterCount;
            for (int l = 0; l < count; l++) {
                boolean known = (book >> l & 1) == 1;
                takes[l] = school.letterTakes[l];
                after[l][LEFT] = school.letterAfter[l][LEFT];
                after[l][RIGHT] = school.letterAfter[l][RIGHT];
                for (int t = 0; t < wholeTime; t++) {
                    boolean ends = t + takes[l] <= wholeTime;
                    cost[l][t] = known && ends ? letterCost(school, steps, l, t) : CANNOT;
                }
            }
        }

        /** The letter ends within the time, so each of its steps has a cost. */
        private static int letterCost(School school, Grid steps, int letter, int from) {
            int sum = 0;
            int at = from;
            for (int i = 0; i < school.letterSizes[letter] && sum < CANNOT; i++) {
                int step = school.letterRows[letter][i];
                sum += steps.cost[step][at];
                at += steps.takes[step];
            }
            return Math.min(sum, CANNOT);
        }

        /** Rows that take a time, by so many missed at most; ways has the same for what is behind each moment. */
        long countWays(int wholeTime, int mayMiss) {
            time = wholeTime;
            missed = mayMiss;
            for (int r = 0; r < 2 * (missed + 1); r++) {
                ways[r][time] = 1;
            }
            for (int t = time - 1; t >= 0; t--) {
                for (int r = 0; r < 2 * (missed + 1); r++) {
                    ways[r][t] = sumOfWays(t, r % 2, r / 2);
                }
            }
            return ways[2 * missed + LEFT][0];
        }

        private long sumOfWays(int t, int foot, int mayMiss) {
            long sum = 0;
            for (int item = 0; item < count; item++) {
                sum += waysBy(item, t, foot, mayMiss);
            }
            return Math.min(sum, MOST_COUNTED);
        }

        private long waysBy(int item, int t, int foot, int mayMiss) {
            int turn = after[item][foot];
            int left = mayMiss - cost[item][t];
            if (turn == NONE || left < 0) {
                return 0;
            }
            return ways[2 * left + turn][t + takes[item]];
        }

        /** The first item, from one on, by which a whole row can go on; NONE if there is none. */
        int itemFrom(int from, int t, int foot, int mayMiss) {
            for (int item = Math.max(from, 0); item < count && t < time; item++) {
                if (waysBy(item, t, foot, mayMiss) > 0) {
                    return item;
                }
            }
            return NONE;
        }

        /** Writes the first row, of which there must be one, and tells its size. */
        int layFirst(int[] into) {
            int t = 0;
            int foot = LEFT;
            int left = missed;
            int size = 0;
            while (t < time && size < into.length) {
                int item = itemFrom(0, t, foot, left);
                if (item == NONE) {
                    return 0;
                }
                into[size] = item;
                size++;
                left -= cost[item][t];
                foot = after[item][foot];
                t += takes[item];
            }
            return size;
        }

        /** Items, as bits, that stand at a place of some row, nothing missed. */
        int standingAt(int place) {
            drawMasks();
            for (int p = 0; p < place && p < MOST_TIME; p++) {
                reachNext();
            }
            int standing = 0;
            for (int item = 0; item < count; item++) {
                if (isGoneOnFrom(item, LEFT) || isGoneOnFrom(item, RIGHT)) {
                    standing |= 1 << item;
                }
            }
            return standing;
        }

        private void drawMasks() {
            for (int item = 0; item < count; item++) {
                fits[item] = 0;
                for (int t = 0; t < time; t++) {
                    fits[item] |= cost[item][t] == 0 ? 1L << t : 0;
                }
            }
            for (int foot = LEFT; foot <= RIGHT; foot++) {
                alive[foot] = 0;
                for (int t = 0; t <= time; t++) {
                    alive[foot] |= ways[foot][t] > 0 ? 1L << t : 0;
                }
            }
            reached[LEFT] = 1;
            reached[RIGHT] = 0;
        }

        private void reachNext() {
            reachedNext[LEFT] = 0;
            reachedNext[RIGHT] = 0;
            for (int item = 0; item < count; item++) {
                for (int foot = LEFT; foot <= RIGHT; foot++) {
                    int turn = after[item][foot];
                    if (turn != NONE) {
                        reachedNext[turn] |= (reached[foot] & fits[item]) << takes[item];
                    }
                }
            }
            reached[LEFT] = reachedNext[LEFT];
            reached[RIGHT] = reachedNext[RIGHT];
        }

        private boolean isGoneOnFrom(int item, int foot) {
            int turn = after[item][foot];
            if (turn == NONE) {
                return false;
            }
            return ((reached[foot] & fits[item]) << takes[item] & alive[turn]) != 0;
        }
    }

    /** An ear that knows how the letters of its book sound, and tells how far it can read what it hears. */
    private static final class Listener {
        private static final int LONGEST_LETTER = MOST_IN_LETTER * MOST_TAKEN;

        final int[][] letterSounds = new int[MOST_LETTERS][LONGEST_LETTER];
        final int[] stepSounds = new int[MOST_STEPS];
        final int[] heardSoFar = new int[MOST_TIME];
        final long[] read = new long[2];
        int book;

        void learn(School school, int[] loud, int ear) {
            book = school.hasEar(ear) ? school.books[ear] : 0;
            for (int s = 0; s < school.stepCount; s++) {
                stepSounds[s] = school.heardBelow(loud[s], ear);
            }
            for (int l = 0; l < school.letterCount; l++) {
                school.hearLetter(l, loud, ear, letterSounds[l], 0);
            }
            read[LEFT] = 1;
            read[RIGHT] = 0;
        }

        boolean soundsSame(School school, int a, int b) {
            int time = school.letterTakes[a];
            return time == school.letterTakes[b] && matching(letterSounds[b], time, letterSounds[a], 0, time) == time;
        }

        /** How many moments of a sound are heard from a moment on, up to the first that is not. */
        private static int matching(int[] sound, int length, int[] heard, int from, int time) {
            int behind = Math.min(Math.min(length, sound.length), Math.min(time, heard.length) - from);
            for (int i = 0; i < behind; i++) {
                if (sound[i] != heard[from + i]) {
                    return i;
                }
            }
            return Math.max(behind, 0);
        }

        int firstUnheard(School school, int[] heard, int time) {
            int known = 0;
            for (int t = 0; t < time; t++) {
                for (int l = 0; l < school.letterCount; l++) {
                    known = Math.max(known, readOn(school, l, heard, t, time));
                }
            }
            return known < time ? known : NONE;
        }

        /** The moment up to which a letter tells what is heard; one that fits whole is read then. */
        private int readOn(School school, int letter, int[] heard, int t, int time) {
            int length = school.letterTakes[letter];
            if (!canBegin(school, letter, t) || t + length > MOST_TIME) {
                return 0;
            }
            int told = matching(letterSounds[letter], length, heard, t, time);
            if (told == length) {
                markRead(school, letter, t);
            }
            return t + told;
        }

        private boolean canBegin(School school, int letter, int t) {
            return (book >> letter & 1) == 1 && (canBeginBy(school, letter, t, LEFT) || canBeginBy(school, letter, t, RIGHT));
        }

        private boolean canBeginBy(School school, int letter, int t, int foot) {
            return (read[foot] >> t & 1) == 1 && school.letterAfter[letter][foot] != NONE;
        }

        private void markRead(School school, int letter, int t) {
            for (int foot = LEFT; foot <= RIGHT; foot++) {
                if (canBeginBy(school, letter, t, foot)) {
                    read[school.letterAfter[letter][foot]] |= 1L << t + school.letterTakes[letter];
                }
            }
        }

        /** Goes on from a moment by a step; what was heard from there on before is forgotten. */
        void hearStep(School school, int step, int from) {
            long kept = (2L << from) - 1;
            read[LEFT] &= kept;
            read[RIGHT] &= kept;
            int behind = putStep(heardSoFar, from, stepSounds[step], school.takes[step]);
            for (int end = from + 1; end <= behind; end++) {
                for (int l = 0; l < school.letterCount; l++) {
                    readUpTo(school, l, end);
                }
            }
        }

        private void readUpTo(School school, int letter, int end) {
            int length = school.letterTakes[letter];
            int begin = end - length;
            if (begin < 0 || !canBegin(school, letter, begin)) {
                return;
            }
            if (matching(letterSounds[letter], length, heardSoFar, begin, end) == length) {
                markRead(school, letter, begin);
            }
        }

        boolean canReadUpTo(int time) {
            return ((read[LEFT] | read[RIGHT]) >> time & 1) == 1;
        }
    }

    /** Goes through walks in their order until a listener can't read one. */
    private static final class SecretSearch {
        private static final int MOST_MOVES = 1000000;

        final int[] walk = new int[MOST_TIME + 1];
        final int[] begins = new int[MOST_TIME + 1];
        final int[] feet = new int[MOST_TIME + 1];
        int size;

        /** All walks are those that a counted grid of steps has. */
        int seek(School school, Grid steps, Listener third, long walks) {
            int tried = 0;
            begin();
            for (int move = 0; move < MOST_MOVES && size >= 0; move++) {
                if (begins[size] == steps.time) {
                    if (!third.canReadUpTo(steps.time)) {
                        return 1;
                    }
                    tried++;
                    if (tried == MOST_TRIED) {
                        return walks > MOST_TRIED ? SPENT : 0;
                    }
                    size--;
                } else {
                    goOn(school, steps, third);
                }
            }
            return 0;
        }

        private void begin() {
            size = 0;
            walk[0] = NONE;
            begins[0] = 0;
            feet[0] = LEFT;
        }

        /** By the next step that leads to a whole walk, or back by one if there is none. */
        private void goOn(School school, Grid steps, Listener third) {
            int at = begins[size];
            int step = steps.itemFrom(walk[size] + 1, at, feet[size], 0);
            if (step == NONE || size >= MOST_TIME) {
                size--;
                return;
            }
            third.hearStep(school, step, at);
            walk[size] = step;
            begins[size + 1] = at + steps.takes[step];
            feet[size + 1] = steps.after[step][feet[size]];
            walk[size + 1] = NONE;
            size++;
        }

        int copyWalk(int[] into) {
            int n = Math.max(0, Math.min(size, into.length));
            System.arraycopy(walk, 0, into, 0, n);
            return n;
        }
    }

    /** Rows of steps dealt anew among the letters, so that a text takes least. */
    private static final class Deal {
        final int[] uses = new int[MOST_LETTERS];
        final int[] restUses = new int[MOST_LETTERS];
        final int[] restTakes = new int[MOST_LETTERS];
        final boolean[] given = new boolean[MOST_LETTERS];

        int dealRows(School school, Text text, int[] whose) {
            countUses(text);
            int best = leastOfRest(school, 0);
            int fixed = 0;
            for (int l = 0; l < school.letterCount && l < whose.length; l++) {
                int row = firstRow(school, l, best - fixed);
                whose[l] = row;
                fixed += uses[l] * school.letterTakes[row];
            }
            return best;
        }

        private void countUses(Text text) {
            Arrays.fill(uses, 0);
            for (int l = 0; l < MOST_LETTERS; l++) {
                given[l] = false;
            }
            for (int i = 0; i < text.size; i++) {
                uses[text.row[i]]++;
            }
        }

        /** Gives the letter the first row by which it and the letters behind it still take no more. */
        private int firstRow(School school, int letter, int most) {
            for (int row = 0; row < school.letterCount; row++) {
                if (!given[row]) {
                    given[row] = true;
                    if (uses[letter] * school.letterTakes[row] + leastOfRest(school, letter + 1) <= most) {
                        return row;
                    }
                    given[row] = false;
                }
            }
            return letter;
        }

        /** The letter used most gets the shortest row, and so on. */
        private int leastOfRest(School school, int from) {
            int n = 0;
            for (int l = from; l < school.letterCount; l++) {
                restUses[n] = uses[l];
                n++;
            }
            int rows = 0;
            for (int row = 0; row < school.letterCount; row++) {
                if (!given[row] && rows < n) {
                    restTakes[rows] = school.letterTakes[row];
                    rows++;
                }
            }
            sortUpwards(restUses, n);
            sortUpwards(restTakes, rows);
            int sum = 0;
            for (int i = 0; i < rows; i++) {
                sum += restUses[n - 1 - i] * restTakes[i];
            }
            return sum;
        }

        private static void sortUpwards(int[] row, int n) {
            for (int i = 1; i < n; i++) {
                for (int j = i; j > 0 && row[j - 1] > row[j]; j--) {
                    int higher = row[j - 1];
                    row[j - 1] = row[j];
                    row[j] = higher;
                }
            }
        }
    }
}
