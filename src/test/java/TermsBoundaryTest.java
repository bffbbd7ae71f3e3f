/**
 * The boundary cases of the document's terms, which hold for all promises, and of its 512 calls: a
 * test is named after the term and the case.
 */
public final class TermsBoundaryTest {
    private static final int NONE = -1000000;
    private static final int CALLS = 512;

    public static void main(String[] args) {
        Check.each(TermsBoundaryTest.class);
        Check.end();
    }

    /** Weights of day 1 as told (0 cracks, -1 passes), then all pass to the end of day 3. */
    private static WeighOff atTheCut(int... pounds) {
        WeighOff x = new WeighOff(pounds.length);
        Runs.enter(x, pounds);
        Runs.passes(x, 2 * pounds.length);
        return x;
    }

    static void termsDaysOneToThreeAreByNumber() {
        WeighOff x = new WeighOff(3);
        Runs.enter(x, 100, 0, 900);
        Runs.dueOrder("day 2, with and without a weight", x, 3, 0, 1, 2);
        Runs.dueOrder("day 3, with and without a weight", x, 4, 0, 1, 2);
        WeighOff y = new WeighOff(12);
        for (int day = 1; day <= 2; day++) {
            Runs.dueOrder("twelve", y, day + 1, 0, 1, 2, 3, 4, 5, 6, 7, 8, 9, 10, 11);
        }
    }

    static void termsOneEntryADay() {
        WeighOff x = new WeighOff(3);
        Runs.enter(x, 300, 200, 100);
        for (int day = 2; day <= 6; day++) {
            Runs.passes(x, 3);
        }
        Check.due("three a day", 18, () -> x.look(3));
        Check.due("then over", 7, x::day);
    }

    static void termsCutEightWithAWeightAreIn() {
        Runs.dueOrder("eight", atTheCut(80, 70, 60, 50, 40, 30, 20, 10), 5, 7, 6, 5, 4, 3, 2, 1, 0);
    }

    static void termsCutPlaceNineIsOut() {
        Runs.dueOrder("nine", atTheCut(90, 80, 70, 60, 50, 40, 30, 20, 10),
                5, 7, 6, 5, 4, 3, 2, 1, 0);
        Runs.dueOrder("twelve", atTheCut(10, 20, 30, 40, 50, 60, 70, 80, 90, 100, 110, 120),
                5, 4, 5, 6, 7, 8, 9, 10, 11);
    }

    static void termsCutSharedPlaceEightIsIn() {
        Runs.dueOrder("two share place 8", atTheCut(90, 80, 70, 60, 50, 40, 30, 20, 20),
                5, 8, 7, 6, 5, 4, 3, 2, 1, 0);
        Runs.dueOrder("five share place 8",
                atTheCut(20, 20, 20, 20, 20, 30, 40, 50, 60, 70, 80, 90),
                5, 4, 3, 2, 1, 0, 5, 6, 7, 8, 9, 10, 11);
        Runs.dueOrder("twelve share place 1",
                atTheCut(20, 20, 20, 20, 20, 20, 20, 20, 20, 20, 20, 20),
                5, 11, 10, 9, 8, 7, 6, 5, 4, 3, 2, 1, 0);
    }

    static void termsCutSharedPlaceNineIsOut() {
        Runs.dueOrder("two share place 7, two place 9",
                atTheCut(90, 80, 70, 60, 50, 40, 30, 30, 20, 20), 5, 7, 6, 5, 4, 3, 2, 1, 0);
        Runs.dueOrder("eight share place 1, four place 9",
                atTheCut(90, 90, 90, 90, 90, 90, 90, 90, 20, 20, 20, 20),
                5, 7, 6, 5, 4, 3, 2, 1, 0);
    }

    static void termsCutWithoutAWeightIsOut() {
        WeighOff x = atTheCut(30, 0, 20, -1);
        Check.due("place 3, and no weight", 3, () -> x.place(1));
        Runs.dueOrder("cracked and passed", x, 5, 2, 0);
        WeighOff y = atTheCut(80, 70, 60, 50, 40, 30, 20, 0);
        Check.due("place 8, and no weight", 8, () -> y.place(7));
        Runs.dueOrder("seven", y, 5, 6, 5, 4, 3, 2, 1, 0);
    }

    static void termsCutThoseThatLeftKeepTheirPlaces() {
        WeighOff x = new WeighOff(9);
        Runs.enter(x, 90, 80, 70, 60, 50, 40, 30, 20, 10);
        x.leave(0);
        Runs.passes(x, 16);
        Runs.dueOrder("place 9 stays out", x, 5, 7, 6, 5, 4, 3, 2, 1);
    }

    static void termsCutALeastWeightOfTheLastEntryIsIn() {
        WeighOff x = new WeighOff(3);
        Runs.passes(x, 8);
        x.weigh(100, 0);
        Check.due("day 4", 4, x::day);
        Runs.dueOrder("the only one", x, 5, 2);
        Runs.dueOrder("the only one", x, 6, 2);
        Runs.dueOrder("the only one", x, 7, 2);
    }

    static void termsCutIsNotMadeAgain() {
        WeighOff x = new WeighOff(10);
        x.crack(9000, 0);
        x.crack(9010, 0);
        Runs.enter(x, 80, 70, 60, 50, 40, 30, 20, 10);
        Runs.passes(x, 20);
        x.appeal(0, 1);
        x.appeal(1, 1);
        Check.due("place 10 now", 10, () -> x.place(9));
        Runs.dueOrder("day 4", x, 5, 9, 8, 7, 6, 5, 4, 3, 2);
        Runs.dueOrder("day 5", x, 6, 9, 8, 7, 6, 5, 4, 3, 2);
        Runs.dueOrder("day 6, places 10 to 3", x, 7, 9, 8, 7, 6, 5, 4, 3, 2);
    }

    static void termsOrderOfDayFiveIsByTheCut() {
        WeighOff x = atTheCut(30, 20, 10);
        Runs.enter(x, 900, 800, -1);
        Check.due("the last one leads now", 1, () -> x.place(2));
        Runs.dueOrder("day 5", x, 6, 2, 1, 0);
    }

    static void termsOrderOfDaySixIsByDayFive() {
        WeighOff x = atTheCut(30, 20, 10);
        Runs.passes(x, 3);
        Runs.enter(x, 800, 900, 850);
        Runs.dueOrder("its last entry counts", x, 7, 2, 0, 1);
        WeighOff y = atTheCut(30, 20, 10);
        Runs.enter(y, 900, -1, -1, -1, 800, -1);
        Check.due("the greatest place first", 0, y::turn);
        y.weigh(9990, 0);
        Runs.dueOrder("what day 6 brings doesn't count", y, 7, 1, 2);
    }

    static void termsOrderOfDaySixOfOnePlace() {
        WeighOff x = atTheCut(30, 20, 20);
        Runs.enter(x, 30, 30, 20);
        Runs.passes(x, 3);
        Check.due("alike", 1, () -> x.place(2));
        Runs.dueOrder("the greatest number first", x, 7, 2, 1, 0);
    }

    static void termsADayEndsWithItsLastOne() {
        WeighOff x = new WeighOff(3);
        x.pass();
        x.leave(2);
        Check.due("one is to come", 1, x::day);
        x.pass();
        Check.due("none is to come", 2, x::day);
        x.leave(0);
        x.leave(1);
        Check.due("nobody is in", 7, x::day);
        WeighOff y = atTheCut(30, 20, 10);
        y.pass();
        y.leave(0);
        Check.due("the last of day 4 left", 4, y::day);
        y.pass();
        Check.due("day 5", 5, y::day);
        Runs.dueOrder("day 5", y, 6, 2, 1);
    }

    static void termsOverWhenNobodyIsInDaysTwoAndThree() {
        for (int day = 1; day <= 2; day++) {
            WeighOff x = new WeighOff(3);
            Runs.enter(x, 30, 20, 10);
            Runs.passes(x, 3 * day - 3);
            x.leave(2);
            x.leave(0);
            Check.due("one is in", day + 1, x::day);
            x.leave(1);
            Check.due("nobody is", 7, x::day);
            Check.due("nobody's turn", NONE, x::turn);
        }
    }

    static void termsOverWhenNobodyIsInDayFour() {
        Check.due("nobody has a weight", 7, () -> atTheCut(0, 0, -1).day());
        WeighOff x = new WeighOff(3);
        Runs.enter(x, 300, 0, 0, -1, -1, -1, -1, -1);
        x.leave(0);
        Check.due("day 3 has one to come", 3, x::day);
        x.pass();
        Check.due("the one with a weight left", 7, x::day);
        WeighOff y = new WeighOff(3);
        Runs.enter(y, 0, 0, 300, -1, -1, -1, -1, -1);
        y.leave(2);
        Check.due("that one left with the turn", 7, y::day);
    }

    static void termsOverWhenNobodyIsInDaysFiveAndSix() {
        for (int day = 4; day <= 5; day++) {
            WeighOff x = atTheCut(30, 20, 10, 0);
            Runs.passes(x, 3 * (day - 4));
            x.pass();
            x.leave(2);
            x.leave(1);
            Check.due("one is to come", day, x::day);
            Check.due("that one", 0, x::turn);
            x.leave(0);
            Check.due("one is still there, but not in", 7, x::day);
            Check.due("nobody's turn", NONE, x::turn);
        }
    }

    static void termsOverBehindDaySix() {
        WeighOff x = atTheCut(30, 20, 10);
        Runs.passes(x, 8);
        Check.due("the last entry is to come", 6, x::day);
        x.leave(0);
        Check.due("nobody behind", 7, x::day);
        Check.state("no entry any more", x::pass);
    }

    static void termsRecordTiltTwentyOrLess() {
        int[] tilts = {-99, -21, -20, 0, 19, 20, 21, 22, 99};
        int[] records = {1, 1, 1, 1, 1, 1, 0, 0, 0};
        for (int nth = 0; nth < tilts.length; nth++) {
            WeighOff x = new WeighOff(3);
            x.weigh(5000, tilts[nth]);
            Check.due("weighed, tilt " + tilts[nth], records[nth], () -> x.look(2));
            Check.due("the record", records[nth] == 1 ? 500 : NONE, () -> x.look(0));
            WeighOff y = new WeighOff(3);
            y.crack(5000, tilts[nth]);
            Check.due("cracked is none", 0, () -> y.look(2));
            y.appeal(0, 1);
            Check.due("appealed, tilt " + tilts[nth], records[nth], () -> y.look(2));
        }
    }

    static void termsRecordByTheTiltOfThatDay() {
        WeighOff x = new WeighOff(3);
        x.crack(5000, 21);
        Runs.passes(x, 2);
        x.crack(6000, 20);
        Check.due("tilt 20 on day 2", 600, () -> x.appeal(0, 2));
        Check.due("is a record", 600, () -> x.look(0));
        x.record(0);
        Check.due("tilt 21 on day 1", 500, () -> x.appeal(0, 1));
        Check.due("is none", NONE, () -> x.look(0));
    }

    static void termsRecordWithoutATilt() {
        WeighOff x = new WeighOff(3);
        x.level(false);
        x.weigh(5000, 0);
        x.crack(6000, 0);
        x.appeal(1, 1);
        Check.due("weighed and appealed", 0, () -> x.look(2));
        Check.due("no record", NONE, () -> x.look(0));
    }

    static void termsRecordAboveAndAlike() {
        WeighOff x = new WeighOff(4);
        x.record(500);
        x.weigh(4999, 0);
        Check.due("less", 0, () -> x.look(2));
        x.weigh(5009, 0);
        Check.due("alike", 0, () -> x.look(2));
        x.crack(5009, 0);
        x.appeal(2, 1);
        Check.due("alike, appealed", 0, () -> x.look(2));
        x.weigh(5010, 0);
        Check.due("one more", 1, () -> x.look(2));
        Check.due("the record", 501, () -> x.look(0));
        x.crack(5020, 0);
        x.appeal(0, 2);
        Check.due("one more, appealed", 2, () -> x.look(2));
        Check.due("the record then", 502, () -> x.look(0));
    }

    static void termsRecordAtOnce() {
        WeighOff x = new WeighOff(3);
        Runs.enter(x, 500, 500, 501);
        Check.due("the second is not above the first", 2, () -> x.look(2));
    }

    static void termsNoneIsNoNumber() {
        WeighOff x = new WeighOff(3);
        x.crack(0, 0);
        x.pass();
        Check.due("-1 is no weight", 0, () -> x.count(0, 4, -1));
        Check.due("-2 is no weight", 0, () -> x.count(0, 4, -2));
        Check.due("none is not alike to none", 0, () -> x.count(0, 4, NONE));
        Check.due("nor at most", 0, () -> x.count(0, 1, NONE));
        Check.due("nor at least", 0, () -> x.count(0, 3, NONE));
        Check.due("but unlike", 2, () -> x.count(0, 5, NONE));
    }

    static void termsArgumentAheadOfState() {
        Refused.argument("weigh", Runs::over, x -> x.weigh(99, 100));
        Refused.argument("crack", Runs::over, x -> x.crack(99, 100));
        Refused.argument("leave", Runs::overForAllLeft, x -> x.leave(3));
        Refused.argument("appeal", Runs::over, x -> x.appeal(0, 7));
    }

    static void termsManyRefusedCallsChangeNothing() {
        Refused.argument("all together", Runs::middle, x -> {
            for (int round = 0; round < 5; round++) {
                refuseAll(x);
            }
            x.open(13);
        });
    }

    /** Twenty-one calls that throw, on the object of Runs.middle(). */
    private static void refuseAll(WeighOff x) {
        Check.argument("open", () -> x.open(2));
        Check.argument("weigh", () -> x.weigh(99, 0));
        Check.argument("weigh's tenths", () -> x.weigh(9999, 100));
        Check.argument("crack", () -> x.crack(99, 0));
        Check.argument("crack's tenths", () -> x.crack(9999, -100));
        Check.argument("leave", () -> x.leave(4));
        Check.state("leave twice", () -> x.leave(3));
        Check.argument("appeal", () -> x.appeal(4, 1));
        Check.state("appeal's state", () -> x.appeal(3, 1));
        Check.argument("record", () -> x.record(1000));
        Check.argument("prize", () -> x.prize(-1));
        Check.argument("weight", () -> x.weight(0, 7));
        Check.argument("tilt", () -> x.tilt(-1, 1));
        Check.argument("best", () -> x.best(4));
        Check.argument("place", () -> x.place(4));
        Check.argument("wins", () -> x.wins(-1));
        Check.argument("count", () -> x.count(2, 0, 0));
        Check.argument("first", () -> x.first(0, 6, 0));
        Check.argument("lamps", () -> x.lamps(0, -1, 0));
        Check.argument("stands", () -> x.stands(0, 4, 0));
        Check.argument("look", () -> x.look(6));
    }

    static void termsCallsUpToTheLastAreAnswered() {
        WeighOff x = new WeighOff(12);
        int calls = 0;
        int entries = 0;
        while (calls < CALLS - 1) {
            if (entries == 72) {
                x.open(12);
                entries = 0;
            } else {
                x.weigh(5000, 20);
                entries++;
            }
            calls++;
        }
        int due = entries;
        Check.due("call 512", due, () -> x.look(3));
    }

    static void termsCallsWithRecordsToTheLast() {
        WeighOff x = new WeighOff(12);
        int records = 0;
        for (int calls = 0; calls < CALLS - 2; calls += 3) {
            x.record(0);
            x.weigh(9999, 20);
            x.open(12);
            records++;
        }
        int due = records;
        Check.due("call 511", 999, () -> x.look(0));
        Check.due("call 512", due, () -> x.look(2));
    }

    static void termsCallsThatAreRefusedToTheLast() {
        WeighOff x = new WeighOff(3);
        for (int calls = 0; calls < CALLS - 1; calls++) {
            int growers = calls % 2 == 0 ? 2 : 13;
            Check.argument("open", () -> x.open(growers));
        }
        Check.due("call 512", 50, () -> x.weigh(500, 0));
        WeighOff y = Runs.overForAllLeft();
        for (int calls = 3; calls < CALLS - 1; calls++) {
            Check.state("pass", y::pass);
        }
        Check.state("call 512", y::pass);
    }

    static void termsCallsThatAskToTheLast() {
        WeighOff x = new WeighOff(12);
        for (int entry = 0; entry < 72; entry++) {
            x.weigh(5000, 20);
        }
        for (int calls = 72; calls < CALLS; calls++) {
            Check.due("call " + (calls + 1), 4095, () -> x.lamps(0, 4, 500));
        }
    }
}
