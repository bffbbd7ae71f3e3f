/**
 * The boundary cases of promises 1 to 10, what begins, enters, leaves, appeals and sets: a test is
 * named after the promise and the case.
 */
public final class PlayBoundaryTest {
    private static final int NONE = -1000000;
    private static final int LEAST = Integer.MIN_VALUE;
    private static final int GREATEST = Integer.MAX_VALUE;
    private static final int[] TOO_FEW_GROWERS = {2, 1, 0, -1, -3, -12, NONE, LEAST};
    private static final int[] TOO_MANY_GROWERS = {13, 14, 100, GREATEST};
    private static final int[] NO_WEIGHED_TENTH_POUNDS =
            {99, 10000, 1, 0, -1, -100, -9999, NONE, LEAST, GREATEST};
    private static final int[] NO_CRACKED_TENTH_POUNDS =
            {99, 10000, 1, -1, -100, -9999, NONE, LEAST, GREATEST};
    private static final int[] NO_TENTHS = {-100, 100, NONE, LEAST, GREATEST};
    private static final int[] NO_POUNDS = {-1, 1000, NONE, LEAST, GREATEST};
    private static final int[] NO_DAY = {0, 7, -1, NONE, LEAST, GREATEST};

    public static void main(String[] args) {
        Check.each(PlayBoundaryTest.class);
        Check.end();
    }

    private static void dueGrowers(String what, WeighOff x, int growers) {
        Check.due(what + ", how many", growers, () -> x.look(4));
        Check.due(what + ", the last one", 1, () -> x.place(growers - 1));
        Check.argument(what + ", one more", () -> x.place(growers));
    }

    /** Each way in which a weigh-off comes to be over. */
    private static Refused.Made[] overs() {
        return new Refused.Made[] {Runs::over, Runs::overBehindDaySix, Runs::overForAllLeft};
    }

    static void promise1GrowersThreeAndTwelveAreTaken() {
        dueGrowers("three", new WeighOff(3), 3);
        dueGrowers("four", new WeighOff(4), 4);
        dueGrowers("eleven", new WeighOff(11), 11);
        dueGrowers("twelve", new WeighOff(12), 12);
    }

    static void promise1GrowersTooFewMeanEight() {
        for (int growers : TOO_FEW_GROWERS) {
            dueGrowers("new WeighOff(" + growers + ")", new WeighOff(growers), 8);
        }
        Runs.dueOrder("day 1", new WeighOff(2), 2, 0, 1, 2, 3, 4, 5, 6, 7);
    }

    static void promise1GrowersTooManyMeanEight() {
        for (int growers : TOO_MANY_GROWERS) {
            dueGrowers("new WeighOff(" + growers + ")", new WeighOff(growers), 8);
        }
        Runs.dueOrder("day 1", new WeighOff(13), 2, 0, 1, 2, 3, 4, 5, 6, 7);
    }

    static void promise1BeginsEmpty() {
        for (int growers : new int[] {3, 12}) {
            dueEmpty("new", new WeighOff(growers), growers);
        }
        WeighOff x = new WeighOff(3);
        Check.due("no record", NONE, () -> x.look(0));
        Check.due("no prize", NONE, () -> x.look(1));
        Check.due("no records", 0, () -> x.look(2));
        Check.holds("the level is on", false, x.level(true));
    }

    private static void dueEmpty(String what, WeighOff x, int growers) {
        Check.due(what + ", day", 1, x::day);
        Check.due(what + ", turn", 0, x::turn);
        Check.due(what + ", entries", 0, () -> x.look(3));
        Check.due(what + ", growers", growers, () -> x.look(4));
        Check.due(what + ", left", 0, () -> x.look(5));
        for (int who = 0; who < growers; who++) {
            int each = who;
            Check.due(what + ", best", NONE, () -> x.best(each));
            Check.due(what + ", place", 1, () -> x.place(each));
            Check.holds(what + ", wins", false, x.wins(each));
            for (int day = 1; day <= 6; day++) {
                int that = day;
                Check.due(what + ", weight", NONE, () -> x.weight(each, that));
                Check.due(what + ", tilt", NONE, () -> x.tilt(each, that));
            }
        }
        Check.due(what + ", count", 0, () -> x.count(0, 5, NONE));
        Check.due(what + ", first", NONE, () -> x.first(0, 5, NONE));
        Check.due(what + ", lamps", (1 << growers) - 1, () -> x.lamps(0, 5, NONE));
        Check.due(what + ", lean", NONE, () -> x.lean(1, true));
    }

    static void promise2GrowersThreeAndTwelveAreTaken() {
        WeighOff x = new WeighOff(7);
        x.open(3);
        dueGrowers("three", x, 3);
        x.open(12);
        dueGrowers("twelve", x, 12);
        x.open(3);
        dueGrowers("three again", x, 3);
    }

    static void promise2GrowersTooFewAreRefused() {
        for (int growers : TOO_FEW_GROWERS) {
            Refused.argument("open(" + growers + ")", Runs::middle, x -> x.open(growers));
        }
        Refused.argument("open(2), over", Runs::over, x -> x.open(2));
    }

    static void promise2GrowersTooManyAreRefused() {
        for (int growers : TOO_MANY_GROWERS) {
            Refused.argument("open(" + growers + ")", Runs::middle, x -> x.open(growers));
        }
        Refused.argument("open(13), over", Runs::overBehindDaySix, x -> x.open(13));
    }

    static void promise2BeginsEmptyBehindAFullOne() {
        WeighOff x = new WeighOff(12);
        for (int entry = 0; entry < 72; entry++) {
            x.weigh(9000, 1);
        }
        Check.due("it is over", 7, x::day);
        x.leave(0);
        x.leave(11);
        x.open(12);
        dueEmpty("opened", x, 12);
        Check.due("the records stay counted", 1, () -> x.look(2));
    }

    static void promise2BeginsEmptyWhenOver() {
        for (Refused.Made made : overs()) {
            WeighOff x = made.object();
            x.open(3);
            dueEmpty("opened", x, 3);
            Runs.dueOrder("day 1", x, 2, 0, 1, 2);
        }
    }

    static void promise2FewerGrowersAndMoreAgain() {
        WeighOff x = new WeighOff(12);
        Runs.enter(x, 10, 20, 30, 40, 50, 60, 70, 80, 90, 100, 110, 120);
        x.leave(11);
        x.open(3);
        dueEmpty("three", x, 3);
        x.open(12);
        dueEmpty("twelve", x, 12);
        x.leave(11);
        Check.due("nobody had left", 1, () -> x.look(5));
    }

    static void promise2LevelRecordAndPrizeStay() {
        WeighOff x = new WeighOff(3);
        x.open(3);
        Check.due("no record stays none", NONE, () -> x.look(0));
        Check.due("no prize stays none", NONE, () -> x.look(1));
        Check.holds("on stays on", false, x.level(true));
        x.record(999);
        x.prize(1);
        x.level(false);
        x.open(3);
        Check.due("the record", 999, () -> x.look(0));
        Check.due("the prize", 1, () -> x.look(1));
        Check.holds("off stays off", false, x.level(false));
    }

    static void promise3TenthPoundsLeastAndMost() {
        WeighOff x = new WeighOff(3);
        Check.due("weigh(100, 0)", 10, () -> x.weigh(100, 0));
        Check.due("weigh(9999, 0)", 999, () -> x.weigh(9999, 0));
        Check.due("its weight", 10, () -> x.weight(0, 1));
        Check.due("its weight", 999, () -> x.weight(1, 1));
    }

    static void promise3TenthPoundsOutsideAreRefused() {
        for (int tenthPounds : NO_WEIGHED_TENTH_POUNDS) {
            Refused.argument("weigh(" + tenthPounds + ", 0)", Runs::middle,
                    x -> x.weigh(tenthPounds, 0));
        }
    }

    static void promise3WhatIsLeftInTenthsIsCutOff() {
        WeighOff x = new WeighOff(4);
        Check.due("109", 10, () -> x.weigh(109, 0));
        Check.due("110", 11, () -> x.weigh(110, 0));
        Check.due("9989", 998, () -> x.weigh(9989, 0));
        Check.due("9990", 999, () -> x.weigh(9990, 0));
        Check.due("the weight is whole pounds", 998, () -> x.weight(2, 1));
    }

    static void promise3TenthsLeastAndMost() {
        WeighOff x = new WeighOff(3);
        x.weigh(500, -99);
        x.weigh(500, 99);
        x.weigh(500, 0);
        Check.due("-99", -99, () -> x.tilt(0, 1));
        Check.due("99", 99, () -> x.tilt(1, 1));
        Check.due("0 is a tilt", 0, () -> x.tilt(2, 1));
    }

    static void promise3TenthsOutsideAreRefused() {
        for (int tenths : NO_TENTHS) {
            Refused.argument("weigh(500, " + tenths + ")", Runs::middle, x -> x.weigh(500, tenths));
        }
    }

    static void promise3TenthsWhileTheLevelIsOff() {
        for (int tenths : new int[] {-99, 99, 0}) {
            WeighOff x = Runs.middleWithoutLevel();
            Check.due("weigh(500, " + tenths + ")", 50, () -> x.weigh(500, tenths));
            Check.due("it doesn't count", NONE, () -> x.tilt(1, 2));
        }
        for (int tenths : NO_TENTHS) {
            Refused.argument("weigh(500, " + tenths + ")", Runs::middleWithoutLevel,
                    x -> x.weigh(500, tenths));
        }
    }

    static void promise3LastEntryAndOver() {
        WeighOff x = Runs.lastEntryOfDaySix();
        Check.due("the last entry", 50, () -> x.weigh(500, 0));
        Check.due("is kept", 50, () -> x.weight(0, 6));
        Check.state("no more", () -> x.weigh(500, 0));
        for (Refused.Made made : overs()) {
            Refused.state("over", made, y -> y.weigh(9999, 0));
        }
    }

    static void promise3ArgumentAheadOfOver() {
        for (Refused.Made made : overs()) {
            Refused.argument("weigh(99, 0)", made, x -> x.weigh(99, 0));
            Refused.argument("weigh(10000, 0)", made, x -> x.weigh(10000, 0));
            Refused.argument("weigh(100, -100)", made, x -> x.weigh(100, -100));
            Refused.argument("weigh(100, 100)", made, x -> x.weigh(100, 100));
        }
    }

    static void promise4TenthPoundsNoneLeastAndMost() {
        WeighOff x = new WeighOff(3);
        x.crack(0, 0);
        x.crack(100, 0);
        x.crack(9999, 0);
        for (int who = 0; who < 3; who++) {
            int each = who;
            Check.due("cracked", -1, () -> x.weight(each, 1));
        }
        Check.state("0 is not measured", () -> x.appeal(0, 1));
        Check.due("100", 10, () -> x.appeal(1, 1));
        Check.due("9999", 999, () -> x.appeal(2, 1));
    }

    static void promise4TenthPoundsOutsideAreRefused() {
        for (int tenthPounds : NO_CRACKED_TENTH_POUNDS) {
            Refused.argument("crack(" + tenthPounds + ", 0)", Runs::middle,
                    x -> x.crack(tenthPounds, 0));
        }
    }

    static void promise4WhatIsLeftInTenthsIsCutOff() {
        WeighOff x = new WeighOff(3);
        x.crack(109, 0);
        x.crack(110, 0);
        x.crack(9989, 0);
        Check.due("109", 10, () -> x.appeal(0, 1));
        Check.due("110", 11, () -> x.appeal(1, 1));
        Check.due("9989", 998, () -> x.appeal(2, 1));
    }

    static void promise4TenthsLeastAndMost() {
        WeighOff x = new WeighOff(3);
        x.crack(0, -99);
        x.crack(500, 99);
        x.crack(500, 0);
        Check.due("-99", -99, () -> x.tilt(0, 1));
        Check.due("99", 99, () -> x.tilt(1, 1));
        Check.due("0 is a tilt", 0, () -> x.tilt(2, 1));
    }

    static void promise4TenthsOutsideAreRefused() {
        for (int tenths : NO_TENTHS) {
            Refused.argument("crack(500, " + tenths + ")", Runs::middle, x -> x.crack(500, tenths));
            Refused.argument("crack(0, " + tenths + ")", Runs::middle, x -> x.crack(0, tenths));
            Refused.argument("level off, crack(0, " + tenths + ")", Runs::middleWithoutLevel,
                    x -> x.crack(0, tenths));
        }
    }

    static void promise4TenthsWhileTheLevelIsOff() {
        for (int tenths : new int[] {-99, 99, 0}) {
            WeighOff x = Runs.middleWithoutLevel();
            x.crack(500, tenths);
            Check.due("crack(500, " + tenths + ") has no tilt", NONE, () -> x.tilt(1, 2));
        }
    }

    static void promise4LastEntryAndOver() {
        WeighOff x = Runs.lastEntryOfDaySix();
        x.crack(9999, 20);
        Check.due("the last entry", -1, () -> x.weight(0, 6));
        Check.state("no more", () -> x.crack(500, 0));
        for (Refused.Made made : overs()) {
            Refused.state("over", made, y -> y.crack(0, 0));
            Refused.state("over, measured", made, y -> y.crack(9999, 0));
        }
    }

    static void promise4ArgumentAheadOfOver() {
        for (Refused.Made made : overs()) {
            Refused.argument("crack(1, 0)", made, x -> x.crack(1, 0));
            Refused.argument("crack(99, 0)", made, x -> x.crack(99, 0));
            Refused.argument("crack(10000, 0)", made, x -> x.crack(10000, 0));
            Refused.argument("crack(0, -100)", made, x -> x.crack(0, -100));
            Refused.argument("crack(100, 100)", made, x -> x.crack(100, 100));
        }
    }

    static void promise5LastEntryAndOver() {
        WeighOff x = Runs.lastEntryOfDaySix();
        x.pass();
        Check.due("the last entry", -2, () -> x.weight(0, 6));
        Check.due("over", 7, x::day);
        for (Refused.Made made : overs()) {
            Refused.state("over", made, WeighOff::pass);
        }
    }

    static void promise6GrowerFirstAndLast() {
        for (int growers : new int[] {3, 12}) {
            WeighOff x = new WeighOff(growers);
            x.leave(growers - 1);
            x.leave(0);
            Check.due("both left", 2, () -> x.look(5));
            Check.due("the next one's turn", 1, x::turn);
        }
    }

    static void promise6GrowerOutsideIsRefused() {
        for (int who : new int[] {-1, 4, 11, 12, NONE, LEAST, GREATEST}) {
            Refused.argument("leave(" + who + ")", Runs::middle, x -> x.leave(who));
        }
        for (int who : new int[] {-1, 3, NONE, LEAST, GREATEST}) {
            Refused.argument("over, leave(" + who + ")", Runs::overForAllLeft, x -> x.leave(who));
        }
        Refused.argument("twelve, leave(12)", () -> new WeighOff(12), x -> x.leave(12));
        Refused.argument("a grower of the last weigh-off", PlayBoundaryTest::threeBehindTwelve,
                x -> x.leave(3));
    }

    private static WeighOff threeBehindTwelve() {
        WeighOff x = new WeighOff(12);
        x.leave(3);
        x.open(3);
        return x;
    }

    static void promise6LeftAlreadyIsRefused() {
        Refused.state("on that day", Runs::middle, x -> x.leave(3));
        for (int who = 0; who < 3; who++) {
            int each = who;
            Refused.state("when all left", Runs::overForAllLeft, x -> x.leave(each));
        }
        WeighOff y = threeBehindTwelve();
        y.open(4);
        y.leave(3);
        Check.due("not in another weigh-off", 1, () -> y.look(5));
        Check.state("but in that one", () -> y.leave(3));
    }

    static void promise6WhenOverIsTaken() {
        WeighOff x = Runs.over();
        x.leave(0);
        x.leave(2);
        x.leave(1);
        Check.due("all left", 3, () -> x.look(5));
        Check.due("still over", 7, x::day);
        Check.due("nobody's turn", NONE, x::turn);
    }

    static void promise6TheLastOneOfADayHasTheTurn() {
        WeighOff x = new WeighOff(3);
        Runs.passes(x, 2);
        x.leave(2);
        Check.due("the next day", 2, x::day);
        Check.due("its first one", 0, x::turn);
        Check.due("it is no entry", 2, () -> x.look(3));
        Check.due("nor there", NONE, () -> x.weight(2, 1));
    }

    static void promise6AnotherOneThanTheTurn() {
        WeighOff x = new WeighOff(4);
        x.pass();
        x.leave(0);
        Check.due("one before the turn", 1, x::turn);
        x.leave(2);
        x.leave(3);
        Check.due("all behind the turn", 1, x::turn);
        Check.due("the day goes on", 1, x::day);
        x.pass();
        Check.due("till that entry", 2, x::day);
        Check.due("the only one", 1, x::turn);
    }

    static void promise6TheLastOneOfAllLeaves() {
        WeighOff x = new WeighOff(3);
        x.leave(1);
        x.leave(2);
        Check.due("one is in", 0, x::turn);
        x.leave(0);
        Check.due("nobody is", NONE, x::turn);
        Check.due("over", 7, x::day);
        Check.due("without an entry", 0, () -> x.look(3));
    }

    static void promise7GrowerAndDayFirstAndLast() {
        WeighOff x = new WeighOff(12);
        x.crack(5000, 0);
        Runs.passes(x, 10);
        x.crack(6000, 0);
        Check.due("the first grower, the first day", 500, () -> x.appeal(0, 1));
        Check.due("the last grower", 600, () -> x.appeal(11, 1));
        WeighOff y = Runs.lastEntryOfDaySix();
        y.crack(7000, 0);
        Check.due("the last day", 700, () -> y.appeal(0, 6));
    }

    static void promise7GrowerOutsideIsRefused() {
        for (int who : new int[] {-1, 4, 11, 12, NONE, LEAST, GREATEST}) {
            Refused.argument("appeal(" + who + ", 1)", Runs::middle, x -> x.appeal(who, 1));
        }
        Refused.argument("twelve", () -> new WeighOff(12), x -> x.appeal(12, 1));
        Refused.argument("a grower of the last weigh-off", PlayBoundaryTest::crackOfTheLastWeighOff,
                x -> x.appeal(3, 1));
    }

    private static WeighOff crackOfTheLastWeighOff() {
        WeighOff x = new WeighOff(4);
        for (int entry = 0; entry < 4; entry++) {
            x.crack(5000, 0);
        }
        x.open(3);
        return x;
    }

    static void promise7DayOutsideIsRefused() {
        for (int day : NO_DAY) {
            Refused.argument("appeal(1, " + day + ")", Runs::middle, x -> x.appeal(1, day));
        }
    }

    static void promise7ArgumentAheadOfState() {
        Refused.argument("no such grower", Runs::over, x -> x.appeal(3, 1));
        Refused.argument("nor such day", Runs::over, x -> x.appeal(0, 7));
        Refused.argument("nor both", Runs::over, x -> x.appeal(-1, 0));
    }

    static void promise7NoCrackedFruitIsRefused() {
        Refused.state("no entry yet", Runs::middle, x -> x.appeal(1, 2));
        Refused.state("no entry on day 6", Runs::middle, x -> x.appeal(1, 6));
        Refused.state("a sound fruit", Runs::middle, x -> x.appeal(0, 1));
        Refused.state("a pass", Runs::middle, x -> x.appeal(2, 1));
        Refused.state("of the last weigh-off", PlayBoundaryTest::crackOfTheLastWeighOff,
                x -> x.appeal(0, 1));
    }

    static void promise7NotMeasuredIsRefused() {
        Refused.state("cracked, not measured", Runs::middle, x -> x.appeal(3, 1));
        Refused.state("where a measured one stood", () -> {
            WeighOff x = crackOfTheLastWeighOff();
            x.crack(0, 0);
            return x;
        }, x -> x.appeal(0, 1));
    }

    static void promise7TwiceIsRefused() {
        Refused.state("no cracked fruit any more", () -> {
            WeighOff x = Runs.middle();
            x.appeal(1, 1);
            return x;
        }, x -> x.appeal(1, 1));
    }

    static void promise7AtAnyTime() {
        WeighOff x = new WeighOff(3);
        for (int entry = 0; entry < 3; entry++) {
            x.crack(3000 + entry * 10, 0);
        }
        Check.due("on the next day", 300, () -> x.appeal(0, 1));
        Runs.passes(x, 6);
        Check.due("day 4", 4, x::day);
        Check.due("behind the cut", 301, () -> x.appeal(1, 1));
        Check.due("the day stays", 4, x::day);
        Check.due("the turn stays", 0, x::turn);
        Runs.passes(x, 3);
        Check.due("over", 7, x::day);
        x.leave(2);
        Check.due("over, and that one left", 302, () -> x.appeal(2, 1));
        Check.due("still over", 7, x::day);
        Check.due("nobody's turn", NONE, x::turn);
        Check.due("it counts", 1, () -> x.place(2));
    }

    static void promise7AtOnceAndOnTheLastTurnBeforeTheCut() {
        WeighOff x = new WeighOff(3);
        Runs.enter(x, 300, 200);
        x.crack(1000, 0);
        Check.due("at once", 100, () -> x.appeal(2, 1));
        Runs.passes(x, 5);
        Runs.dueOrder("the last of day 3", x, 4, 2);
        Runs.dueOrder("it is in", x, 5, 2, 1, 0);
    }

    static void promise7TheCutThatWasStays() {
        WeighOff x = new WeighOff(3);
        Runs.enter(x, 300, 200);
        x.crack(9000, 0);
        Runs.passes(x, 6);
        x.appeal(2, 1);
        Check.due("the place is new", 1, () -> x.place(2));
        Runs.dueOrder("day 4", x, 5, 1, 0);
        Runs.dueOrder("day 5", x, 6, 1, 0);
        Runs.dueOrder("day 6", x, 7, 1, 0);
    }

    static void promise7AnOrderThatWasStays() {
        WeighOff x = new WeighOff(3);
        x.crack(9000, 0);
        Runs.enter(x, 300, 200);
        Runs.enter(x, 100, -1, -1, -1, -1, -1);
        x.appeal(0, 1);
        Runs.dueOrder("day 4 by the cut", x, 5, 0, 2, 1);
        x.crack(9990, 0);
        Runs.dueOrder("day 5 by the cut", x, 6, 2, 1);
        Check.due("day 6 by the places now", 2, x::turn);
        x.pass();
        x.appeal(0, 5);
        Runs.dueOrder("day 6 likewise", x, 7, 1, 0);
    }

    static void promise7TheTiltStaysWhateverTheLevelIs() {
        WeighOff x = new WeighOff(3);
        x.crack(5000, 20);
        x.level(false);
        x.crack(5010, 0);
        x.appeal(0, 1);
        Check.due("it had a tilt", 20, () -> x.tilt(0, 1));
        Check.due("so it is a record", 500, () -> x.look(0));
        x.level(true);
        x.appeal(1, 1);
        Check.due("it had none", NONE, () -> x.tilt(1, 1));
        Check.due("so it is no record", 500, () -> x.look(0));
    }

    static void promise8WhetherItIsAnotherThing() {
        WeighOff x = new WeighOff(3);
        Check.holds("on, it was on at first", false, x.level(true));
        Check.holds("off, it was on", true, x.level(false));
        Check.holds("off, it was off", false, x.level(false));
        Check.holds("on, it was off", true, x.level(true));
        Check.holds("on, it was on", false, x.level(true));
        WeighOff y = Runs.over();
        Check.holds("over, off", true, y.level(false));
        Check.holds("over, on", true, y.level(true));
    }

    static void promise8FromNowOnAlone() {
        WeighOff x = new WeighOff(3);
        x.weigh(500, 7);
        x.level(false);
        x.crack(500, 8);
        Check.due("what had a tilt has it", 7, () -> x.tilt(0, 1));
        x.level(true);
        Check.due("what had none has none", NONE, () -> x.tilt(1, 1));
        x.crack(500, 9);
        Check.due("on again", 9, () -> x.tilt(2, 1));
    }

    static void promise9PoundsLeastAndMost() {
        WeighOff x = new WeighOff(3);
        x.record(1);
        Check.due("1", 1, () -> x.look(0));
        x.record(999);
        Check.due("999", 999, () -> x.look(0));
        x.record(2);
        Check.due("down again", 2, () -> x.look(0));
        Check.due("which is no fruit", 0, () -> x.look(2));
    }

    static void promise9ZeroMeansNone() {
        WeighOff x = new WeighOff(3);
        x.record(0);
        Check.due("none", NONE, () -> x.look(0));
        x.record(999);
        x.record(0);
        Check.due("none any more", NONE, () -> x.look(0));
        x.weigh(100, 20);
        Check.due("then the least fruit is one", 10, () -> x.look(0));
    }

    static void promise9PoundsOutsideAreRefused() {
        for (int pounds : NO_POUNDS) {
            Refused.argument("record(" + pounds + ")", Runs::middle, x -> x.record(pounds));
            Refused.argument("over, record(" + pounds + ")", Runs::overBehindDaySix,
                    x -> x.record(pounds));
        }
    }

    static void promise9NothingIsAboveTheGreatest() {
        WeighOff x = new WeighOff(3);
        x.record(999);
        x.weigh(9999, 0);
        Check.due("999 is not above 999", 0, () -> x.look(2));
        x.record(998);
        x.weigh(9989, 0);
        Check.due("998 is not above 998", 0, () -> x.look(2));
        x.weigh(9990, 0);
        Check.due("999 is above 998", 1, () -> x.look(2));
        Check.due("the record then", 999, () -> x.look(0));
    }

    static void promise10PoundsLeastAndMost() {
        WeighOff x = new WeighOff(3);
        x.prize(1);
        Check.due("1", 1, () -> x.look(1));
        x.prize(999);
        Check.due("999", 999, () -> x.look(1));
        x.weigh(9989, 0);
        x.weigh(9990, 0);
        Check.holds("998 is less", false, x.wins(0));
        Check.holds("999 wins", true, x.wins(1));
    }

    static void promise10ZeroMeansNone() {
        WeighOff x = new WeighOff(3);
        x.weigh(9999, 0);
        x.prize(0);
        Check.due("none", NONE, () -> x.look(1));
        Check.holds("nobody wins", false, x.wins(0));
        x.prize(999);
        x.prize(0);
        Check.due("none any more", NONE, () -> x.look(1));
        Check.holds("nobody wins any more", false, x.wins(0));
    }

    static void promise10PoundsOutsideAreRefused() {
        for (int pounds : NO_POUNDS) {
            Refused.argument("prize(" + pounds + ")", Runs::middle, x -> x.prize(pounds));
            Refused.argument("over, prize(" + pounds + ")", Runs::overBehindDaySix,
                    x -> x.prize(pounds));
        }
    }
}
