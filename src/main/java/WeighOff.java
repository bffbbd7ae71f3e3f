/**
 * A weigh-off of great fruits: growers in turn, fruits weighed or cracked, tilts of the scales,
 * appeals, the cut after three days, places, a record, a prize, and a board that asks how weights
 * and tilts stand to a number.
 */
public final class WeighOff {
    public static final int NONE = -1000000;

    private static final int FEWEST_GROWERS = 3;
    private static final int MOST_GROWERS = 12;
    private static final int USUAL_GROWERS = 8;

    private static final int DAYS = 6;
    private static final int CUT_DAY = 3;
    private static final int CUT_PLACE = 8;
    private static final int LAST_DAY_IN_CUT_ORDER = 5;
    private static final int OVER = 7;

    private static final int CRACKED = -1;
    private static final int PASSED = -2;
    private static final int NOT_MEASURED = 0;

    private static final int LEAST_TENTH_POUNDS = 100;
    private static final int MOST_TENTH_POUNDS = 9999;
    private static final int MOST_TENTHS = 99;
    private static final int MOST_POUNDS = 999;
    private static final int MOST_RECORD_TILT = 20;

    private static final int WHAT_WEIGHT = 0;
    private static final int WHAT_TILT = 1;
    private static final int SIGNS = 6;
    private static final int UNLIKE = 5;

    private final Sheet sheet;
    private final Course course;
    private boolean levelOn;
    private int recordPounds;
    private int recordCount;
    private int prizePounds;

    public WeighOff(int growers) {
        sheet = new Sheet();
        course = new Course(sheet);
        levelOn = true;
        recordPounds = NONE;
        recordCount = 0;
        prizePounds = NONE;
        begin(mayTakePart(growers) ? growers : USUAL_GROWERS);
    }

    public void open(int growers) throws IllegalArgumentException {
        if (!mayTakePart(growers)) {
            throw new IllegalArgumentException("the number of growers is not 3 .. 12");
        }
        begin(growers);
    }

    public int weigh(int tenthPounds, int tenths)
            throws IllegalArgumentException, IllegalStateException {
        requireTenthPounds(tenthPounds);
        requireTenths(tenths);
        int who = requireTurn();
        int pounds = tenthPounds / 10;
        int scales = tiltIfLevel(tenths);
        sheet.enter(who, course.today(), pounds, scales, NOT_MEASURED);
        noteRecord(pounds, scales);
        course.goOn();
        return pounds;
    }

    public void crack(int tenthPounds, int tenths)
            throws IllegalArgumentException, IllegalStateException {
        if (tenthPounds != NOT_MEASURED) {
            requireTenthPounds(tenthPounds);
        }
        requireTenths(tenths);
        int who = requireTurn();
        sheet.enter(who, course.today(), CRACKED, tiltIfLevel(tenths), tenthPounds / 10);
        course.goOn();
    }

    public void pass() throws IllegalStateException {
        int who = requireTurn();
        sheet.enter(who, course.today(), PASSED, NONE, NOT_MEASURED);
        course.goOn();
    }

    public void leave(int who) throws IllegalArgumentException, IllegalStateException {
        requireGrower(who);
        if (course.hasLeft(who)) {
            throw new IllegalStateException("that grower has left already");
        }
        course.dismiss(who);
    }

    public int appeal(int who, int day) throws IllegalArgumentException, IllegalStateException {
        requireGrower(who);
        requireDay(day);
        if (!sheet.isMeasuredCrack(who, day)) {
            throw new IllegalStateException("no cracked fruit that was measured stands there");
        }
        int pounds = sheet.makeSound(who, day);
        noteRecord(pounds, sheet.tiltOn(who, day));
        return pounds;
    }

    public boolean level(boolean on) {
        boolean changed = on != levelOn;
        levelOn = on;
        return changed;
    }

    public void record(int pounds) throws IllegalArgumentException {
        requirePounds(pounds);
        recordPounds = poundsOrNone(pounds);
    }

    public void prize(int pounds) throws IllegalArgumentException {
        requirePounds(pounds);
        prizePounds = poundsOrNone(pounds);
    }

    public int turn() {
        return course.whoseTurn();
    }

    public int day() {
        return course.today();
    }

    public int weight(int who, int day) throws IllegalArgumentException {
        requireGrower(who);
        requireDay(day);
        return sheet.markOn(who, day);
    }

    public int tilt(int who, int day) throws IllegalArgumentException {
        requireGrower(who);
        requireDay(day);
        return sheet.tiltOn(who, day);
    }

    public int best(int who) throws IllegalArgumentException {
        requireGrower(who);
        return sheet.bestOf(who);
    }

    public int place(int who) throws IllegalArgumentException {
        requireGrower(who);
        return sheet.placeOf(who);
    }

    public boolean wins(int who) throws IllegalArgumentException {
        requireGrower(who);
        int greatest = sheet.bestOf(who);
        return prizePounds != NONE && greatest != NONE && greatest >= prizePounds;
    }

    public int count(int what, int sign, int number) throws IllegalArgumentException {
        requireWhat(what);
        requireSign(sign);
        int counted = 0;
        for (int who = 0; who < sheet.howManyGrowers(); who++) {
            for (int day = 1; day <= DAYS; day++) {
                if (sheet.hasEntry(who, day) && holds(sign, sheet.valueOn(what, who, day), number)) {
                    counted++;
                }
            }
        }
        return counted;
    }

    public int first(int what, int sign, int number) throws IllegalArgumentException {
        requireWhat(what);
        requireSign(sign);
        for (int who = 0; who < sheet.howManyGrowers(); who++) {
            int latest = sheet.latestDayOf(who);
            if (latest != NONE && holds(sign, sheet.valueOn(what, who, latest), number)) {
                return who;
            }
        }
        return NONE;
    }

    public int lamps(int what, int sign, int number) throws IllegalArgumentException {
        requireWhat(what);
        requireSign(sign);
        int lit = 0;
        for (int who = 0; who < sheet.howManyGrowers(); who++) {
            if (holds(sign, bestOrLatestTilt(what, who), number)) {
                lit |= 1 << who;
            }
        }
        return lit;
    }

    public int stands(int what, int one, int other) throws IllegalArgumentException {
        requireWhat(what);
        requireGrower(one);
        requireGrower(other);
        int ones = bestOrLatestTilt(what, one);
        int others = bestOrLatestTilt(what, other);
        int holding = 0;
        for (int sign = 0; sign < SIGNS; sign++) {
            if (holds(sign, ones, others)) {
                holding |= 1 << sign;
            }
        }
        return holding;
    }

    public int lean(int day, boolean least) throws IllegalArgumentException {
        requireDay(day);
        int utmost = NONE;
        for (int who = 0; who < sheet.howManyGrowers(); who++) {
            int scales = sheet.tiltOn(who, day);
            if (scales != NONE && (utmost == NONE || (least ? scales < utmost : scales > utmost))) {
                utmost = scales;
            }
        }
        return utmost;
    }

    public int look(int what) throws IllegalArgumentException {
        switch (what) {
            case 0:
                return recordPounds;
            case 1:
                return prizePounds;
            case 2:
                return recordCount;
            case 3:
                return sheet.howManyEntries();
            case 4:
                return sheet.howManyGrowers();
            case 5:
                return course.howManyLeft();
            default:
                throw new IllegalArgumentException("there is no such thing to look at");
        }
    }

    private void begin(int growers) {
        sheet.clearFor(growers);
        course.restart();
    }

    private int tiltIfLevel(int tenths) {
        return levelOn ? tenths : NONE;
    }

    private void noteRecord(int pounds, int scales) {
        if (scales == NONE || scales > MOST_RECORD_TILT) {
            return;
        }
        if (recordPounds == NONE || pounds > recordPounds) {
            recordPounds = pounds;
            recordCount++;
        }
    }

    private int bestOrLatestTilt(int what, int who) {
        return what == WHAT_WEIGHT ? sheet.bestOf(who) : sheet.latestTiltOf(who);
    }

    private int requireTurn() {
        int who = course.whoseTurn();
        if (who == NONE) {
            throw new IllegalStateException("the weigh-off is over");
        }
        return who;
    }

    private void requireGrower(int who) {
        if (who < 0 || who >= sheet.howManyGrowers()) {
            throw new IllegalArgumentException("there is no such grower");
        }
    }

    private static void requireDay(int day) {
        if (day < 1 || day > DAYS) {
            throw new IllegalArgumentException("there is no such day");
        }
    }

    private static void requireTenthPounds(int tenthPounds) {
        if (tenthPounds < LEAST_TENTH_POUNDS || tenthPounds > MOST_TENTH_POUNDS) {
            throw new IllegalArgumentException("the tenths of a pound are not 100 .. 9999");
        }
    }

    private static void requireTenths(int tenths) {
        if (tenths < -MOST_TENTHS || tenths > MOST_TENTHS) {
            throw new IllegalArgumentException("the tenths of a degree are not -99 .. 99");
        }
    }

    private static void requirePounds(int pounds) {
        if (pounds < 0 || pounds > MOST_POUNDS) {
            throw new IllegalArgumentException("the pounds are not 0 .. 999");
        }
    }

    private static void requireWhat(int what) {
        if (what != WHAT_WEIGHT && what != WHAT_TILT) {
            throw new IllegalArgumentException("there is no such what");
        }
    }

    private static void requireSign(int sign) {
        if (sign < 0 || sign >= SIGNS) {
            throw new IllegalArgumentException("there is no such sign");
        }
    }

    private static boolean mayTakePart(int growers) {
        return growers >= FEWEST_GROWERS && growers <= MOST_GROWERS;
    }

    private static int poundsOrNone(int pounds) {
        return pounds == 0 ? NONE : pounds;
    }

    private static boolean holds(int sign, int one, int other) {
        if (one == NONE || other == NONE) {
            return sign == UNLIKE;
        }
        switch (sign) {
            case 0:
                return one < other;
            case 1:
                return one <= other;
            case 2:
                return one > other;
            case 3:
                return one >= other;
            case 4:
                return one == other;
            default:
                return one != other;
        }
    }

    /**
     * What was entered, of each grower and day. The rows are long enough for the most growers, so
     * that another weigh-off takes no new ones.
     */
    private static final class Sheet {
        private int growers;
        private int entries;
        /** A WEIGHT, CRACKED, PASSED, or NONE where there was no entry. */
        private final int[] marks;
        private final int[] tilts;
        /** What a cracked fruit weighed, in whole pounds, or NOT_MEASURED. */
        private final int[] measured;
        /** Each grower's WEIGHTS, the greatest first, then NONE, which is below every WEIGHT. */
        private final int[] ranked;

        Sheet() {
            marks = new int[MOST_GROWERS * DAYS];
            tilts = new int[MOST_GROWERS * DAYS];
            measured = new int[MOST_GROWERS * DAYS];
            ranked = new int[MOST_GROWERS * DAYS];
        }

        void clearFor(int newGrowers) {
            growers = newGrowers;
            entries = 0;
            for (int at = 0; at < MOST_GROWERS * DAYS; at++) {
                marks[at] = NONE;
                tilts[at] = NONE;
                measured[at] = NOT_MEASURED;
                ranked[at] = NONE;
            }
        }

        void enter(int who, int day, int mark, int scales, int pounds) {
            int at = slot(who, day);
            marks[at] = mark;
            tilts[at] = scales;
            measured[at] = pounds;
            entries++;
            if (isWeight(mark)) {
                rank(who, mark);
            }
        }

        boolean isMeasuredCrack(int who, int day) {
            int at = slot(who, day);
            return marks[at] == CRACKED && measured[at] != NOT_MEASURED;
        }

        int makeSound(int who, int day) {
            int at = slot(who, day);
            marks[at] = measured[at];
            rank(who, marks[at]);
            return marks[at];
        }

        int howManyGrowers() {
            return growers;
        }

        int howManyEntries() {
            return entries;
        }

        boolean hasEntry(int who, int day) {
            return marks[slot(who, day)] != NONE;
        }

        int markOn(int who, int day) {
            return marks[slot(who, day)];
        }

        int tiltOn(int who, int day) {
            return tilts[slot(who, day)];
        }

        int valueOn(int what, int who, int day) {
            if (what == WHAT_TILT) {
                return tiltOn(who, day);
            }
            int mark = markOn(who, day);
            return isWeight(mark) ? mark : NONE;
        }

        int latestDayOf(int who) {
            for (int day = DAYS; day >= 1; day--) {
                if (hasEntry(who, day)) {
                    return day;
                }
            }
            return NONE;
        }

        int latestTiltOf(int who) {
            int latest = latestDayOf(who);
            return latest == NONE ? NONE : tiltOn(who, latest);
        }

        int bestOf(int who) {
            return ranked[slot(who, 1)];
        }

        int placeOf(int who) {
            int before = 0;
            for (int other = 0; other < growers; other++) {
                if (isBefore(other, who)) {
                    before++;
                }
            }
            return 1 + before;
        }

        private boolean isBefore(int one, int other) {
            for (int nth = 1; nth <= DAYS; nth++) {
                int ones = ranked[slot(one, nth)];
                int others = ranked[slot(other, nth)];
                if (ones != others) {
                    return ones > others;
                }
            }
            return false;
        }

        /** A grower has one entry a day, so the last of the row is still NONE and may go. */
        private void rank(int who, int pounds) {
            int front = slot(who, 1);
            int at = slot(who, DAYS);
            while (at > front && ranked[at - 1] < pounds) {
                ranked[at] = ranked[at - 1];
                at--;
            }
            ranked[at] = pounds;
        }

        private static boolean isWeight(int mark) {
            return mark > 0;
        }

        private static int slot(int who, int day) {
            return who * DAYS + day - 1;
        }
    }

    /** Who comes when: the day, its order, the cut, and who left. */
    private static final class Course {
        private final Sheet sheet;
        private int day;
        /** Those of the day's order, the first lineLength of the row; none when it is over. */
        private final int[] line;
        private int lineLength;
        private int position;
        private final boolean[] left;
        private int leftCount;
        private final boolean[] throughCut;
        /** The places that the order goes by, as they were when they were taken. */
        private final int[] takenPlaces;

        Course(Sheet entered) {
            sheet = entered;
            line = new int[MOST_GROWERS];
            left = new boolean[MOST_GROWERS];
            throughCut = new boolean[MOST_GROWERS];
            takenPlaces = new int[MOST_GROWERS];
        }

        void restart() {
            for (int who = 0; who < MOST_GROWERS; who++) {
                left[who] = false;
                throughCut[who] = false;
                takenPlaces[who] = 0;
            }
            leftCount = 0;
            day = 1;
            lineUp();
        }

        int today() {
            return day;
        }

        int whoseTurn() {
            return position < lineLength ? line[position] : NONE;
        }

        boolean hasLeft(int who) {
            return left[who];
        }

        int howManyLeft() {
            return leftCount;
        }

        void dismiss(int who) {
            left[who] = true;
            leftCount++;
            if (whoseTurn() == who) {
                goOn();
            }
        }

        void goOn() {
            position++;
            while (position < lineLength && left[line[position]]) {
                position++;
            }
            if (position >= lineLength) {
                endDay();
            }
        }

        private void endDay() {
            if (day == CUT_DAY) {
                takePlaces();
                makeCut();
            }
            if (day == LAST_DAY_IN_CUT_ORDER) {
                takePlaces();
            }
            day++;
            lineUp();
        }

        private void takePlaces() {
            for (int who = 0; who < sheet.howManyGrowers(); who++) {
                takenPlaces[who] = sheet.placeOf(who);
            }
        }

        private void makeCut() {
            for (int who = 0; who < sheet.howManyGrowers(); who++) {
                throughCut[who] = sheet.bestOf(who) != NONE && takenPlaces[who] <= CUT_PLACE;
            }
        }

        private void lineUp() {
            position = 0;
            lineLength = 0;
            if (day <= CUT_DAY) {
                lineUpByNumber();
            } else if (day <= DAYS) {
                lineUpByPlace();
            }
            if (lineLength == 0) {
                day = OVER;
            }
        }

        private void lineUpByNumber() {
            for (int who = 0; who < sheet.howManyGrowers(); who++) {
                if (!left[who]) {
                    putInLine(who);
                }
            }
        }

        private void lineUpByPlace() {
            for (int place = sheet.howManyGrowers(); place >= 1; place--) {
                for (int who = sheet.howManyGrowers() - 1; who >= 0; who--) {
                    if (takenPlaces[who] == place && throughCut[who] && !left[who]) {
                        putInLine(who);
                    }
                }
            }
        }

        private void putInLine(int who) {
            if (lineLength < MOST_GROWERS) {
                line[lineLength] = who;
                lineLength++;
            }
        }
    }
}
