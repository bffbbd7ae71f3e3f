/**
 * The boundary cases of promises 11 to 23, what is asked: a test is named after the promise and the
 * case.
 */
public final class AskBoundaryTest {
    private static final int NONE = -1000000;
    private static final int LEAST = Integer.MIN_VALUE;
    private static final int GREATEST = Integer.MAX_VALUE;
    /** No growers of the four of Runs.middle(). */
    private static final int[] NO_GROWER = {-1, 4, 11, 12, NONE, LEAST, GREATEST};
    private static final int[] NO_DAY = {0, 7, -1, NONE, LEAST, GREATEST};
    private static final int[] NO_WHAT = {-1, 2, NONE, LEAST, GREATEST};
    private static final int[] NO_SIGN = {-1, 6, NONE, LEAST, GREATEST};
    private static final int[] NO_LOOK = {-1, 6, 7, NONE, LEAST, GREATEST};

    public static void main(String[] args) {
        Check.each(AskBoundaryTest.class);
        Check.end();
    }

    private interface OfGrower {
        Object asked(WeighOff x, int who);
    }

    private interface OfDay {
        Object asked(WeighOff x, int day);
    }

    private interface OfBoard {
        int asked(WeighOff x, int what, int sign, int number);
    }

    private static void noSuchGrower(OfGrower ask) {
        for (int who : NO_GROWER) {
            Refused.argument("grower " + who, Runs::middle, x -> ask.asked(x, who));
        }
        Refused.argument("grower 12 of twelve", () -> new WeighOff(12), x -> ask.asked(x, 12));
        Refused.argument("grower 3 of three, over", Runs::over, x -> ask.asked(x, 3));
        Refused.argument("a grower of the last weigh-off", AskBoundaryTest::threeBehindFour,
                x -> ask.asked(x, 3));
    }

    private static WeighOff threeBehindFour() {
        WeighOff x = new WeighOff(4);
        Runs.enter(x, 100, 200, 300, 400);
        x.open(3);
        return x;
    }

    private static void noSuchDay(OfDay ask) {
        for (int day : NO_DAY) {
            Refused.argument("day " + day, Runs::middle, x -> ask.asked(x, day));
            Refused.argument("day " + day + ", over", Runs::overBehindDaySix,
                    x -> ask.asked(x, day));
        }
    }

    private static void noSuchWhatOrSign(OfBoard ask) {
        for (int what : NO_WHAT) {
            Refused.argument("what " + what, Runs::middle, x -> ask.asked(x, what, 0, 0));
            Refused.argument("what " + what + " to none", Runs::middle,
                    x -> ask.asked(x, what, 5, NONE));
        }
        for (int sign : NO_SIGN) {
            Refused.argument("sign " + sign, Runs::middle, x -> ask.asked(x, 0, sign, 0));
            Refused.argument("sign " + sign + " of tilts", Runs::middle,
                    x -> ask.asked(x, 1, sign, 0));
            Refused.argument("sign " + sign + " to none", Runs::middle,
                    x -> ask.asked(x, 1, sign, NONE));
            Refused.argument("sign " + sign + ", no entries", () -> new WeighOff(3),
                    x -> ask.asked(x, 0, sign, 0));
        }
    }

    /** What is due for the signs 0 .. 5. */
    private static void signs(String of, WeighOff x, OfBoard ask, int what, int number, int... due) {
        for (int sign = 0; sign < 6; sign++) {
            int each = sign;
            Check.due(of + " to " + number + ", sign " + sign, due[sign],
                    () -> ask.asked(x, what, each, number));
        }
    }

    /** Of this one value, which the asked object has alone, all signs to the numbers round it. */
    private static void roundOne(String of, OfBoard ask, WeighOff x, int what, int value, int no) {
        int yes = ask.asked(x, what, 4, value);
        signs(of, x, ask, what, value - 1, no, no, yes, yes, no, yes);
        signs(of, x, ask, what, value, no, yes, no, yes, yes, no);
        signs(of, x, ask, what, value + 1, yes, yes, no, no, no, yes);
        signs(of, x, ask, what, LEAST, no, no, yes, yes, no, yes);
        signs(of, x, ask, what, NONE - 1, no, no, yes, yes, no, yes);
        signs(of, x, ask, what, NONE, no, no, no, no, no, yes);
        signs(of, x, ask, what, NONE + 1, no, no, yes, yes, no, yes);
        signs(of, x, ask, what, GREATEST, yes, yes, no, no, no, yes);
    }

    /** Of entries without such a value (and nothing else) only sign 5 holds, to any number. */
    private static void ofNone(String of, OfBoard ask, WeighOff x, int what, int no, int yes) {
        for (int number : new int[] {0, 1, -1, -2, 99, NONE - 1, NONE, NONE + 1, LEAST, GREATEST}) {
            signs(of, x, ask, what, number, no, no, no, no, no, yes);
        }
    }

    static void promise11NoneWhenOver() {
        WeighOff x = Runs.lastEntryOfDaySix();
        Check.due("the last entry is to come", 0, x::turn);
        x.pass();
        Check.due("behind day 6", NONE, x::turn);
        Check.due("nobody had a weight", NONE, () -> Runs.over().turn());
        Check.due("all left", NONE, () -> Runs.overForAllLeft().turn());
    }

    static void promise11FirstAndLastOfADay() {
        WeighOff x = new WeighOff(12);
        Check.due("the first", 0, x::turn);
        Runs.passes(x, 11);
        Check.due("the last", 11, x::turn);
        x.pass();
        Check.due("the first of the next day", 0, x::turn);
    }

    static void promise12OneToSixAndSevenWhenOver() {
        WeighOff x = new WeighOff(3);
        Runs.enter(x, 300, 200);
        Check.due("day 1 to its last entry", 1, x::day);
        x.weigh(1000, 0);
        for (int day = 2; day <= 6; day++) {
            Check.due("begins", day, x::day);
            Runs.passes(x, 2);
            Check.due("to its last entry", day, x::day);
            x.pass();
        }
        Check.due("behind day 6", 7, x::day);
        Check.due("nobody had a weight", 7, () -> Runs.over().day());
        Check.due("all left", 7, () -> Runs.overForAllLeft().day());
    }

    static void promise13GrowerAndDayFirstAndLast() {
        WeighOff x = new WeighOff(12);
        Runs.enter(x, 300);
        Runs.passes(x, 10);
        x.weigh(9999, 0);
        Check.due("the first grower, the first day", 300, () -> x.weight(0, 1));
        Check.due("the last grower", 999, () -> x.weight(11, 1));
        Check.due("the last day, no entry", NONE, () -> x.weight(11, 6));
        WeighOff y = Runs.lastEntryOfDaySix();
        y.weigh(100, 0);
        Check.due("the last day", 10, () -> y.weight(0, 6));
    }

    static void promise13GrowerOrDayOutsideIsRefused() {
        noSuchGrower((x, who) -> x.weight(who, 1));
        noSuchDay((x, day) -> x.weight(0, day));
    }

    static void promise13WhatTheNumbersStandFor() {
        WeighOff x = new WeighOff(4);
        x.weigh(109, 99);
        x.crack(9999, 0);
        x.pass();
        Check.due("a weight", 10, () -> x.weight(0, 1));
        Check.due("a cracked fruit, measured", -1, () -> x.weight(1, 1));
        Check.due("a pass", -2, () -> x.weight(2, 1));
        Check.due("the turn, no entry", NONE, () -> x.weight(3, 1));
        x.crack(0, 0);
        Check.due("a cracked fruit, not measured", -1, () -> x.weight(3, 1));
        x.appeal(1, 1);
        Check.due("an appealed one", 999, () -> x.weight(1, 1));
        x.leave(0);
        Check.due("of one that left", 10, () -> x.weight(0, 1));
        Check.due("left before an entry", NONE, () -> x.weight(0, 2));
    }

    static void promise14GrowerAndDayFirstAndLast() {
        WeighOff x = new WeighOff(12);
        x.weigh(300, 11);
        Runs.passes(x, 10);
        x.crack(0, -11);
        Check.due("the first grower, the first day", 11, () -> x.tilt(0, 1));
        Check.due("the last grower", -11, () -> x.tilt(11, 1));
        Check.due("the last day, no entry", NONE, () -> x.tilt(11, 6));
        WeighOff y = Runs.lastEntryOfDaySix();
        y.weigh(100, 99);
        Check.due("the last day", 99, () -> y.tilt(0, 6));
    }

    static void promise14GrowerOrDayOutsideIsRefused() {
        noSuchGrower((x, who) -> x.tilt(who, 1));
        noSuchDay((x, day) -> x.tilt(0, day));
    }

    static void promise14NoneIfThereIsNone() {
        WeighOff x = new WeighOff(4);
        x.weigh(500, 0);
        x.pass();
        x.level(false);
        x.weigh(500, 5);
        Check.due("0 is one", 0, () -> x.tilt(0, 1));
        Check.due("a pass", NONE, () -> x.tilt(1, 1));
        Check.due("the level was off", NONE, () -> x.tilt(2, 1));
        Check.due("no entry", NONE, () -> x.tilt(3, 1));
        x.crack(500, 5);
        Check.due("cracked, the level was off", NONE, () -> x.tilt(3, 1));
    }

    static void promise15GrowerFirstAndLast() {
        WeighOff x = new WeighOff(12);
        x.weigh(100, 0);
        Runs.passes(x, 10);
        x.weigh(9999, 0);
        Check.due("the first", 10, () -> x.best(0));
        Check.due("the last", 999, () -> x.best(11));
    }

    static void promise15GrowerOutsideIsRefused() {
        noSuchGrower((x, who) -> x.best(who));
    }

    static void promise15NoneWithoutAWeight() {
        WeighOff x = new WeighOff(4);
        x.crack(9999, 0);
        x.crack(0, 0);
        x.pass();
        for (int who = 0; who < 4; who++) {
            int each = who;
            Check.due("cracked, passed, no entry", NONE, () -> x.best(each));
        }
        x.appeal(0, 1);
        Check.due("appealed", 999, () -> x.best(0));
    }

    static void promise15GreatestOfOneToSixWeights() {
        for (int greatest = 1; greatest <= 6; greatest++) {
            WeighOff x = new WeighOff(3);
            x.leave(1);
            x.leave(2);
            for (int day = 1; day <= 6; day++) {
                x.weigh(day == greatest ? 9000 : 9000 - 10 * day, 0);
            }
            Check.due("that of day " + greatest, 900, () -> x.best(0));
        }
    }

    static void promise16GrowerFirstAndLast() {
        WeighOff x = new WeighOff(12);
        Runs.enter(x, 120, 110, 100, 90, 80, 70, 60, 50, 40, 30, 20, 10);
        for (int who = 0; who < 12; who++) {
            int each = who;
            Check.due("place of " + who, who + 1, () -> x.place(each));
        }
    }

    static void promise16GrowerOutsideIsRefused() {
        noSuchGrower((x, who) -> x.place(who));
    }

    static void promise16AllAlikeShareTheFirst() {
        WeighOff x = new WeighOff(12);
        for (int day = 1; day <= 2; day++) {
            for (int who = 0; who < 12; who++) {
                x.weigh(5000 + who % 10, 0);
            }
        }
        for (int who = 0; who < 12; who++) {
            int each = who;
            Check.due("place of " + who, 1, () -> x.place(each));
        }
    }

    static void promise16WithoutAWeightBehindTheLeast() {
        WeighOff x = new WeighOff(4);
        x.weigh(100, 0);
        x.crack(9999, 0);
        x.pass();
        Check.due("the least weight", 1, () -> x.place(0));
        Check.due("cracked", 2, () -> x.place(1));
        Check.due("passed", 2, () -> x.place(2));
        Check.due("no entry", 2, () -> x.place(3));
    }

    static void promise16OnePoundAndTheSixthWeight() {
        WeighOff x = new WeighOff(3);
        for (int day = 1; day <= 5; day++) {
            Runs.enter(x, 500, 500, 500);
        }
        Runs.enter(x, 10, 11, -1);
        Check.due("eleven", 1, () -> x.place(1));
        Check.due("ten", 2, () -> x.place(2));
        Check.due("none", 3, () -> x.place(0));
    }

    static void promise16ThoseThatLeftCount() {
        WeighOff x = new WeighOff(3);
        Runs.enter(x, 300, 200, 100);
        x.leave(0);
        x.leave(1);
        Check.due("the first left", 1, () -> x.place(0));
        Check.due("the second left", 2, () -> x.place(1));
        Check.due("behind both", 3, () -> x.place(2));
    }

    static void promise17GrowerFirstAndLast() {
        WeighOff x = new WeighOff(12);
        x.prize(10);
        x.weigh(100, 0);
        Runs.passes(x, 10);
        x.weigh(109, 0);
        Check.holds("the first", true, x.wins(0));
        Check.holds("between", false, x.wins(1));
        Check.holds("the last", true, x.wins(11));
    }

    static void promise17GrowerOutsideIsRefused() {
        noSuchGrower((x, who) -> x.wins(who));
    }

    static void promise17AsMuchAndOneLess() {
        WeighOff x = new WeighOff(3);
        Runs.enter(x, 499, 500, 501);
        x.prize(500);
        Check.holds("one less", false, x.wins(0));
        Check.holds("as much", true, x.wins(1));
        Check.holds("one more", true, x.wins(2));
    }

    static void promise17NobodyWithoutAPrizeOrABest() {
        WeighOff x = new WeighOff(3);
        x.weigh(9999, 0);
        x.crack(9999, 0);
        Check.holds("no prize", false, x.wins(0));
        Check.holds("no prize, no best", false, x.wins(1));
        x.prize(1);
        Check.holds("the least prize", true, x.wins(0));
        Check.holds("cracked", false, x.wins(1));
        Check.holds("no entry", false, x.wins(2));
        x.prize(0);
        Check.holds("no prize any more", false, x.wins(0));
    }

    static void promise18WhatOrSignOutsideIsRefused() {
        noSuchWhatOrSign(WeighOff::count);
    }

    static void promise18NumbersRoundAValue() {
        WeighOff x = new WeighOff(3);
        x.weigh(5009, -99);
        roundOne("a weight", WeighOff::count, x, 0, 500, 0);
        roundOne("a tilt", WeighOff::count, x, 1, -99, 0);
        Check.due("it is counted", 1, () -> x.count(0, 4, 500));
        Check.due("its tilt is counted", 1, () -> x.count(1, 4, -99));
        WeighOff y = new WeighOff(3);
        y.crack(0, 0);
        roundOne("tilt 0", WeighOff::count, y, 1, 0, 0);
    }

    static void promise18AnEntryWithoutHasNone() {
        WeighOff x = new WeighOff(3);
        x.crack(9999, 1);
        x.pass();
        ofNone("weights", WeighOff::count, x, 0, 0, 2);
        WeighOff y = new WeighOff(3);
        y.pass();
        y.level(false);
        y.weigh(500, 1);
        y.crack(500, 1);
        ofNone("tilts", WeighOff::count, y, 1, 0, 3);
    }

    static void promise18NoEntriesAndAll() {
        ofNone("no entries, weights", WeighOff::count, new WeighOff(12), 0, 0, 0);
        ofNone("no entries, tilts", WeighOff::count, new WeighOff(12), 1, 0, 0);
        WeighOff x = new WeighOff(12);
        for (int entry = 0; entry < 72; entry++) {
            x.weigh(5000, 20);
        }
        signs("all", x, WeighOff::count, 0, 500, 0, 72, 0, 72, 72, 0);
        signs("all", x, WeighOff::count, 1, 20, 0, 72, 0, 72, 72, 0);
        x.open(12);
        signs("of the last weigh-off", x, WeighOff::count, 0, 500, 0, 0, 0, 0, 0, 0);
    }

    static void promise18FirstAndLastGrowerAndDay() {
        WeighOff x = new WeighOff(3);
        Runs.enter(x, 300, 200);
        x.weigh(1000, 3);
        Runs.passes(x, 14);
        x.weigh(9999, 99);
        Check.due("the first grower's first day", 1, () -> x.count(0, 4, 300));
        Check.due("the last grower's", 1, () -> x.count(0, 4, 100));
        Check.due("the last entry of day 6", 1, () -> x.count(0, 4, 999));
        Check.due("the last grower's tilt", 1, () -> x.count(1, 4, 3));
        Check.due("the last entry's tilt", 1, () -> x.count(1, 4, 99));
        Check.due("passes between", 14 + 3, () -> x.count(0, 5, 300));
    }

    static void promise19WhatOrSignOutsideIsRefused() {
        noSuchWhatOrSign(WeighOff::first);
    }

    static void promise19NumbersRoundAValue() {
        WeighOff x = new WeighOff(3);
        x.weigh(5009, 99);
        roundOne("a weight", WeighOff::first, x, 0, 500, NONE);
        roundOne("a tilt", WeighOff::first, x, 1, 99, NONE);
        Check.due("it is grower 0", 0, () -> x.first(0, 4, 500));
        Check.due("by the tilt too", 0, () -> x.first(1, 4, 99));
    }

    static void promise19AnEntryWithoutHasNone() {
        WeighOff x = new WeighOff(3);
        x.crack(9999, 1);
        ofNone("a cracked fruit", WeighOff::first, x, 0, NONE, 0);
        WeighOff y = new WeighOff(3);
        y.pass();
        ofNone("a pass", WeighOff::first, y, 0, NONE, 0);
        ofNone("a pass, tilt", WeighOff::first, y, 1, NONE, 0);
    }

    static void promise19WithoutAnEntryIsNoneOfThem() {
        ofNone("no entries", WeighOff::first, new WeighOff(3), 0, NONE, NONE);
        ofNone("no entries, tilts", WeighOff::first, new WeighOff(12), 1, NONE, NONE);
        WeighOff x = new WeighOff(12);
        for (int who = 0; who < 11; who++) {
            x.leave(who);
        }
        ofNone("the last has none yet", WeighOff::first, x, 0, NONE, NONE);
        x.pass();
        Check.due("the last one", 11, () -> x.first(0, 5, 0));
        Check.due("the last one, tilt", 11, () -> x.first(1, 5, NONE));
    }

    static void promise19TheLeastOfSeveralAndTheLatestEntry() {
        WeighOff x = new WeighOff(3);
        x.weigh(5000, 1);
        x.weigh(5000, 1);
        x.weigh(5000, 1);
        Check.due("the least number", 0, () -> x.first(0, 4, 500));
        x.pass();
        Check.due("the latest is a pass", 1, () -> x.first(0, 4, 500));
        Check.due("likewise the tilt", 1, () -> x.first(1, 4, 1));
        x.weigh(4990, 2);
        x.weigh(4990, 2);
        Check.due("nobody any more", NONE, () -> x.first(0, 4, 500));
        Check.due("nor by the tilt", NONE, () -> x.first(1, 4, 1));
        x.leave(1);
        Check.due("one that left", 1, () -> x.first(0, 4, 499));
    }

    static void promise19TheLastGrowerAlone() {
        WeighOff x = new WeighOff(12);
        for (int who = 0; who < 12; who++) {
            x.weigh(1000 + 10 * who, who);
        }
        Check.due("weight", 11, () -> x.first(0, 4, 111));
        Check.due("weight above", 11, () -> x.first(0, 2, 110));
        Check.due("tilt", 11, () -> x.first(1, 4, 11));
        Check.due("tilt above", 11, () -> x.first(1, 2, 10));
        Check.due("nobody", NONE, () -> x.first(1, 2, 11));
    }

    static void promise20WhatOrSignOutsideIsRefused() {
        noSuchWhatOrSign(WeighOff::lamps);
    }

    static void promise20NumbersRoundAValue() {
        WeighOff x = new WeighOff(3);
        x.leave(1);
        x.leave(2);
        x.weigh(5009, 0);
        for (int number : new int[] {499, 500, 501, LEAST, NONE - 1, NONE, NONE + 1, GREATEST}) {
            Check.due("sign 5 holds for those without", 6, () -> x.lamps(0, 5, number) & 6);
        }
        roundOne("a best", AskBoundaryTest::lampOfGrowerZero, x, 0, 500, 0);
        roundOne("a tilt", AskBoundaryTest::lampOfGrowerZero, x, 1, 0, 0);
        Check.due("lamp 0 alone", 1, () -> x.lamps(0, 4, 500));
        Check.due("lamp 0 alone, tilt", 1, () -> x.lamps(1, 4, 0));
    }

    private static int lampOfGrowerZero(WeighOff x, int what, int sign, int number) {
        return x.lamps(what, sign, number) & 1;
    }

    static void promise20WithoutABestOrAnEntryIsNone() {
        ofNone("no entries", WeighOff::lamps, new WeighOff(3), 0, 0, 7);
        ofNone("no entries, tilts", WeighOff::lamps, new WeighOff(12), 1, 0, 4095);
        WeighOff x = new WeighOff(4);
        x.crack(9999, 1);
        x.pass();
        ofNone("bests", WeighOff::lamps, x, 0, 0, 15);
        Check.due("the tilt of the one", 1, () -> x.lamps(1, 4, 1));
        Check.due("and those without", 14, () -> x.lamps(1, 5, 1));
    }

    static void promise20AllTwelveLamps() {
        WeighOff x = new WeighOff(12);
        for (int entry = 0; entry < 12; entry++) {
            x.weigh(5000, 1);
        }
        Check.due("all", 4095, () -> x.lamps(0, 4, 500));
        Check.due("all, tilt", 4095, () -> x.lamps(1, 4, 1));
        Check.due("none", 0, () -> x.lamps(0, 5, 500));
        Check.due("none, tilt", 0, () -> x.lamps(1, 5, 1));
        WeighOff y = new WeighOff(12);
        for (int who = 0; who < 12; who++) {
            y.weigh(1000 + 10 * who, who);
        }
        for (int who = 0; who < 12; who++) {
            int each = who;
            Check.due("lamp " + who, 1 << who, () -> y.lamps(0, 4, 100 + each));
            Check.due("lamp " + who + ", tilt", 1 << who, () -> y.lamps(1, 4, each));
        }
    }

    static void promise20TheBestStaysAndTheTiltIsTheLatest() {
        WeighOff x = new WeighOff(3);
        x.weigh(5000, 7);
        Runs.passes(x, 3);
        Check.due("the best", 1, () -> x.lamps(0, 4, 500));
        Check.due("the pass has no tilt", 0, () -> x.lamps(1, 4, 7));
        x.leave(0);
        Check.due("one that left", 1, () -> x.lamps(0, 3, 500));
        x.weigh(5000, 8);
        Check.due("the latest of one is of another day", 2, () -> x.lamps(1, 4, 8));
    }

    static void promise20TheLatestEntriesAreOfUnlikeDays() {
        WeighOff x = new WeighOff(3);
        x.weigh(5000, 1);
        x.weigh(5000, 2);
        x.weigh(5000, 3);
        x.weigh(5000, 4);
        Check.due("of day 2", 1, () -> x.lamps(1, 4, 4));
        Check.due("of day 1", 2, () -> x.lamps(1, 4, 2));
        Check.due("of day 1, the last grower", 4, () -> x.lamps(1, 4, 3));
        Check.due("not of day 1", 0, () -> x.lamps(1, 4, 1));
    }

    static void promise21WhatOrGrowerOutsideIsRefused() {
        for (int what : NO_WHAT) {
            Refused.argument("what " + what, Runs::middle, x -> x.stands(what, 0, 0));
        }
        for (int what = 0; what <= 1; what++) {
            int each = what;
            noSuchGrower((x, who) -> x.stands(each, who, 0));
            noSuchGrower((x, who) -> x.stands(each, 0, who));
        }
    }

    static void promise21OneMoreOneLessAndAlike() {
        WeighOff x = new WeighOff(12);
        x.weigh(5000, -1);
        x.weigh(5009, 0);
        Runs.passes(x, 9);
        x.weigh(5010, 1);
        int below = 1 + 2 + 32;
        int above = 4 + 8 + 32;
        int alike = 2 + 8 + 16;
        Check.due("one less", below, () -> x.stands(0, 0, 11));
        Check.due("one more", above, () -> x.stands(0, 11, 0));
        Check.due("alike", alike, () -> x.stands(0, 0, 1));
        Check.due("to oneself", alike, () -> x.stands(0, 11, 11));
        Check.due("tilt, one less", below, () -> x.stands(1, 0, 1));
        Check.due("tilt, one more", above, () -> x.stands(1, 11, 1));
        Check.due("tilt, to oneself", alike, () -> x.stands(1, 11, 11));
    }

    static void promise21OneOrBothAreNone() {
        WeighOff x = new WeighOff(4);
        x.weigh(5000, 0);
        x.crack(5000, 0);
        x.pass();
        for (int other = 1; other <= 3; other++) {
            int each = other;
            Check.due("the other has no best", 32, () -> x.stands(0, 0, each));
            Check.due("the one has no best", 32, () -> x.stands(0, each, 0));
            Check.due("both have no best", 32, () -> x.stands(0, each, each));
        }
        Check.due("both have a tilt, one cracked", 2 + 8 + 16, () -> x.stands(1, 0, 1));
        for (int other = 2; other <= 3; other++) {
            int each = other;
            Check.due("the other has no tilt", 32, () -> x.stands(1, 0, each));
            Check.due("the one has no tilt", 32, () -> x.stands(1, each, 0));
            Check.due("both have no tilt", 32, () -> x.stands(1, each, each));
        }
        Check.due("a pass and no entry", 32, () -> x.stands(1, 2, 3));
    }

    static void promise22DayFirstAndLast() {
        WeighOff x = Runs.lastEntryOfDaySix();
        x.weigh(500, -99);
        Check.due("day 6", -99, () -> x.lean(6, false));
        Check.due("day 6, least", -99, () -> x.lean(6, true));
        Check.due("day 1", 0, () -> x.lean(1, false));
    }

    static void promise22DayOutsideIsRefused() {
        noSuchDay((x, day) -> x.lean(day, true));
        noSuchDay((x, day) -> x.lean(day, false));
    }

    static void promise22NoneIfNoneHasOne() {
        WeighOff x = new WeighOff(3);
        Check.due("no entries", NONE, () -> x.lean(1, false));
        Check.due("no entries, least", NONE, () -> x.lean(1, true));
        x.pass();
        x.level(false);
        x.weigh(500, 1);
        x.crack(500, 1);
        Check.due("entries without", NONE, () -> x.lean(1, false));
        Check.due("entries without, least", NONE, () -> x.lean(1, true));
        Check.due("a day to come", NONE, () -> x.lean(6, true));
    }

    static void promise22LeastAndGreatestOfATilt() {
        WeighOff x = new WeighOff(4);
        x.weigh(500, 0);
        Check.due("0 alone", 0, () -> x.lean(1, false));
        Check.due("0 alone, least", 0, () -> x.lean(1, true));
        x.pass();
        x.crack(0, -99);
        x.weigh(500, 99);
        x.leave(3);
        Check.due("greatest, of one that left", 99, () -> x.lean(1, false));
        Check.due("least, of a cracked one", -99, () -> x.lean(1, true));
        x.weigh(500, -98);
        x.pass();
        x.crack(0, -97);
        Check.due("greatest, all below 0", -97, () -> x.lean(2, false));
        Check.due("least, all below 0", -98, () -> x.lean(2, true));
    }

    static void promise22FirstAndLastGrowerOfTwelve() {
        WeighOff x = new WeighOff(12);
        x.weigh(500, -50);
        for (int who = 1; who < 11; who++) {
            x.weigh(500, 0);
        }
        x.weigh(500, 50);
        Check.due("the last", 50, () -> x.lean(1, false));
        Check.due("the first", -50, () -> x.lean(1, true));
    }

    static void promise23WhatOutsideIsRefused() {
        for (int what : NO_LOOK) {
            Refused.argument("look(" + what + ")", Runs::middle, x -> x.look(what));
            Refused.argument("look(" + what + "), over", Runs::over, x -> x.look(what));
        }
    }

    static void promise23NoneAndNought() {
        WeighOff x = new WeighOff(3);
        Check.due("no record", NONE, () -> x.look(0));
        Check.due("no prize", NONE, () -> x.look(1));
        Check.due("no records", 0, () -> x.look(2));
        Check.due("no entries", 0, () -> x.look(3));
        Check.due("nobody left", 0, () -> x.look(5));
    }

    static void promise23EachWhatIsAnotherThing() {
        WeighOff x = new WeighOff(12);
        x.prize(998);
        Runs.enter(x, 10, 11, 0, -1, 999);
        x.leave(11);
        x.leave(5);
        Check.due("the record", 999, () -> x.look(0));
        Check.due("the prize", 998, () -> x.look(1));
        Check.due("records", 3, () -> x.look(2));
        Check.due("entries", 5, () -> x.look(3));
        Check.due("growers", 12, () -> x.look(4));
        Check.due("left", 2, () -> x.look(5));
    }

    static void promise23AllEntriesAndAllLeft() {
        WeighOff x = new WeighOff(12);
        for (int entry = 0; entry < 72; entry++) {
            x.weigh(100, 0);
        }
        Check.due("all entries", 72, () -> x.look(3));
        Check.due("one record", 1, () -> x.look(2));
        for (int who = 0; who < 12; who++) {
            x.leave(who);
        }
        Check.due("all left", 12, () -> x.look(5));
        Check.due("still so many growers", 12, () -> x.look(4));
    }

    static void promise23RecordsOfAllWeighOffs() {
        WeighOff x = new WeighOff(3);
        Runs.enter(x, 100, 200);
        x.crack(3000, 0);
        x.open(3);
        Runs.enter(x, 201, 201, 202);
        x.crack(3000, 20);
        x.appeal(0, 2);
        Check.due("two, two and the appealed one", 5, () -> x.look(2));
        x.record(0);
        Check.due("they stay when there is no record", 5, () -> x.look(2));
    }
}
