/**
 * Each sentence of promises 1 to 23, in the document's order: a test bears the sentence. Ordinary
 * inputs, the edges that the document names, and wrong inputs.
 */
public final class PromisesTest {
    private static final int NONE = -1000000;
    private static final int LEAST = Integer.MIN_VALUE;
    private static final int GREATEST = Integer.MAX_VALUE;
    private static final int[] NO_GROWERS = {2, 13, 0, -1, -3, NONE, LEAST, GREATEST};
    private static final int[] NO_TENTH_POUNDS = {99, 10000, 1, -1, -100, NONE, LEAST, GREATEST};
    private static final int[] NO_TENTHS = {-100, 100, NONE, LEAST, GREATEST};
    private static final int[] NO_POUNDS = {-1, 1000, NONE, LEAST, GREATEST};
    /** No growers where there are three. */
    private static final int[] NO_GROWER = {-1, 3, 12, NONE, LEAST, GREATEST};
    private static final int[] NO_DAY = {0, 7, -1, NONE, LEAST, GREATEST};
    private static final int[] NO_WHAT = {-1, 2, NONE, LEAST, GREATEST};
    private static final int[] NO_SIGN = {-1, 6, NONE, LEAST, GREATEST};

    public static void main(String[] args) {
        Check.each(PromisesTest.class);
        Check.end();
    }

    private interface OfOne {
        Object asked(int number);
    }

    private interface OfBoard {
        int asked(int what, int sign, int number);
    }

    private static void refuses(String what, int[] numbers, OfOne ask) {
        for (int number : numbers) {
            Check.argument(what + " " + number, () -> ask.asked(number));
        }
    }

    private static void refusesWhatAndSign(OfBoard ask) {
        refuses("what", NO_WHAT, what -> ask.asked(what, 0, 0));
        refuses("what, to none", NO_WHAT, what -> ask.asked(what, 5, NONE));
        refuses("sign", NO_SIGN, sign -> ask.asked(0, sign, 0));
        refuses("sign of tilts, to none", NO_SIGN, sign -> ask.asked(1, sign, NONE));
    }

    /** What is due for the signs 0 .. 5. */
    private static void signs(String of, OfBoard ask, int what, int number, int... due) {
        for (int sign = 0; sign < 6; sign++) {
            int each = sign;
            Check.due(of + ", sign " + sign, due[sign], () -> ask.asked(what, each, number));
        }
    }

    /** Grower 0 has 500 tilt 5 then 300 tilt -7; 1 a crack tilt 9 then a pass; 2 a pass; 3 left. */
    private static WeighOff board() {
        WeighOff x = new WeighOff(4);
        x.weigh(5000, 5);
        x.crack(5000, 9);
        x.pass();
        x.leave(3);
        x.weigh(3000, -7);
        x.pass();
        return x;
    }

    private static void dueBegun(String what, WeighOff x, int growers) {
        Check.due(what + ", growers", growers, () -> x.look(4));
        Check.due(what + ", day", 1, x::day);
        Check.due(what + ", turn", 0, x::turn);
        Check.due(what + ", no entries", 0, () -> x.look(3));
        Check.due(what + ", nobody left", 0, () -> x.look(5));
        for (int who = 0; who < growers; who++) {
            int each = who;
            Check.due(what + ", no best", NONE, () -> x.best(each));
            Check.due(what + ", all share place 1", 1, () -> x.place(each));
            for (int day = 1; day <= 6; day++) {
                int that = day;
                Check.due(what + ", no weight", NONE, () -> x.weight(each, that));
                Check.due(what + ", no tilt", NONE, () -> x.tilt(each, that));
            }
        }
    }

    @Says("A weigh-off of so many growers (another number than 3 .. 12 means 8) begins: day 1, no "
            + "entries.")
    static void promise1Begins() {
        for (int growers = 3; growers <= 12; growers++) {
            dueBegun("so many", new WeighOff(growers), growers);
        }
        for (int growers : NO_GROWERS) {
            dueBegun("another number", new WeighOff(growers), 8);
        }
        Runs.dueOrder("eight", new WeighOff(0), 2, 0, 1, 2, 3, 4, 5, 6, 7);
    }

    @Says("The level is on, there is no record and no prize.")
    static void promise1LevelRecordAndPrize() {
        WeighOff x = new WeighOff(3);
        Check.holds("the level is on", false, x.level(true));
        Check.due("no record", NONE, () -> x.look(0));
        Check.due("no prize", NONE, () -> x.look(1));
        Check.due("no records", 0, () -> x.look(2));
        Check.holds("nobody wins", false, x.wins(0));
        x.weigh(100, 20);
        Check.due("a tilt is taken", 20, () -> x.tilt(0, 1));
        Check.due("the least fruit is a record", 10, () -> x.look(0));
    }

    @Says("Another weigh-off of so many growers begins;")
    static void promise2Begins() {
        WeighOff x = new WeighOff(5);
        Runs.enter(x, 500, 400, 0, -1);
        x.leave(4);
        x.leave(0);
        x.open(12);
        dueBegun("more", x, 12);
        Runs.dueOrder("all are in again", x, 2, 0, 1, 2, 3, 4, 5, 6, 7, 8, 9, 10, 11);
        x.open(3);
        dueBegun("fewer", x, 3);
        Check.argument("grower 3 is gone", () -> x.best(3));
        Runs.dueOrder("all three", x, 2, 0, 1, 2);
    }

    @Says("Another weigh-off of so many growers begins;")
    static void promise2ForgetsTheCutAndWhatWasMeasured() {
        WeighOff x = new WeighOff(3);
        Runs.enter(x, 300, 200, 100);
        Runs.passes(x, 6);
        Check.due("the cut is made", 4, x::day);
        x.open(4);
        Runs.passes(x, 12);
        Check.due("nobody of the new one has a weight", 7, x::day);
        x.open(3);
        dueBegun("from over", x, 3);
        x.crack(5000, 0);
        x.open(3);
        Check.state("no cracked fruit stands there", () -> x.appeal(0, 1));
        x.crack(0, 0);
        Check.state("it was not measured", () -> x.appeal(0, 1));
    }

    @Says("the level, the record and the prize stay as they are.")
    static void promise2LevelRecordAndPrizeStay() {
        WeighOff x = new WeighOff(3);
        x.open(3);
        Check.due("no record", NONE, () -> x.look(0));
        Check.due("no prize", NONE, () -> x.look(1));
        Check.holds("on", false, x.level(true));
        x.weigh(5000, 0);
        x.prize(300);
        x.level(false);
        x.open(4);
        Check.due("the record", 500, () -> x.look(0));
        Check.due("the prize", 300, () -> x.look(1));
        Check.due("how many were records", 1, () -> x.look(2));
        Check.holds("off", false, x.level(false));
        x.weigh(9000, 0);
        Check.due("no tilt is taken", NONE, () -> x.tilt(0, 1));
        Check.holds("the prize is won", true, x.wins(0));
    }

    @Says("IllegalArgumentException: the number isn't 3 .. 12.")
    static void promise2Refuses() {
        WeighOff x = new WeighOff(5);
        x.pass();
        for (int growers : NO_GROWERS) {
            Check.argument("open(" + growers + ")", () -> x.open(growers));
        }
        Check.due("it goes on", 1, x::turn);
        Check.argument("when over", () -> Runs.over().open(13));
    }

    @Says("The one that has the turn WEIGHS a fruit of so many tenths of a pound, with a tilt of "
            + "so many tenths")
    static void promise3TheOneThatHasTheTurn() {
        WeighOff x = new WeighOff(3);
        x.weigh(100, -99);
        x.weigh(9999, 99);
        Check.due("the first one's weight", 10, () -> x.weight(0, 1));
        Check.due("the first one's tilt", -99, () -> x.tilt(0, 1));
        Check.due("the second one's weight", 999, () -> x.weight(1, 1));
        Check.due("the second one's tilt", 99, () -> x.tilt(1, 1));
        Check.due("the third has none yet", NONE, () -> x.weight(2, 1));
        Check.due("and has the turn", 2, x::turn);
        x.weigh(4569, 0);
        Check.due("the next day", 2, x::day);
        Check.due("the first one's turn", 0, x::turn);
        Check.state("it is no cracked fruit", () -> x.appeal(2, 1));
    }

    @Says("(which doesn't count while the level is off, but must be as told)")
    static void promise3WhileTheLevelIsOff() {
        WeighOff x = new WeighOff(3);
        x.level(false);
        Check.due("weighed", 50, () -> x.weigh(500, 20));
        Check.due("no tilt", NONE, () -> x.tilt(0, 1));
        Check.due("no record", NONE, () -> x.look(0));
        refuses("tenths", NO_TENTHS, tenths -> x.weigh(500, tenths));
        Check.due("the turn stays", 1, x::turn);
        Check.due("the least", 50, () -> x.weigh(500, -99));
        Check.due("the greatest", 50, () -> x.weigh(500, 99));
    }

    @Says("the WEIGHT.")
    static void promise3AnswersTheWeight() {
        WeighOff x = new WeighOff(4);
        Check.due("the least", 10, () -> x.weigh(100, 0));
        Check.due("the greatest", 999, () -> x.weigh(9999, 0));
        Check.due("the tenths are cut off", 456, () -> x.weigh(4569, 0));
        Check.due("not above the record", 455, () -> x.weigh(4550, 99));
    }

    @Says("IllegalArgumentException: tenthPounds are not 100 .. 9999, or tenths not -99 .. 99.")
    static void promise3RefusesArguments() {
        WeighOff x = new WeighOff(3);
        refuses("tenthPounds", NO_TENTH_POUNDS, tenthPounds -> x.weigh(tenthPounds, 0));
        Check.argument("tenthPounds 0", () -> x.weigh(0, 0));
        refuses("tenths", NO_TENTHS, tenths -> x.weigh(100, tenths));
        Check.due("the turn stays", 0, x::turn);
        Check.due("no entry", 0, () -> x.look(3));
    }

    @Says("IllegalStateException: the weigh-off is over.")
    static void promise3RefusesWhenOver() {
        Check.state("nobody in day 4", () -> Runs.over().weigh(100, 0));
        Check.state("behind day 6", () -> Runs.overBehindDaySix().weigh(9999, 99));
        Check.state("all left", () -> Runs.overForAllLeft().weigh(500, 0));
    }

    @Says("The one that has the turn has a CRACKED fruit;")
    static void promise4TheOneThatHasTheTurn() {
        WeighOff x = new WeighOff(3);
        x.crack(0, 7);
        x.crack(9999, -7);
        Check.due("the first one's", -1, () -> x.weight(0, 1));
        Check.due("the first one's tilt", 7, () -> x.tilt(0, 1));
        Check.due("the second one's", -1, () -> x.weight(1, 1));
        Check.due("the second one's tilt", -7, () -> x.tilt(1, 1));
        Check.due("the third has none yet", NONE, () -> x.weight(2, 1));
        Check.due("and has the turn", 2, x::turn);
        Check.due("no best", NONE, () -> x.best(1));
        Check.due("no record", NONE, () -> x.look(0));
        Check.due("two entries", 2, () -> x.look(3));
        x.level(false);
        x.crack(9999, 5);
        Check.due("no tilt while the level is off", NONE, () -> x.tilt(2, 1));
        Check.due("the next day", 2, x::day);
    }

    @Says("tenthPounds 0: not MEASURED, otherwise it was.")
    static void promise4MeasuredOrNot() {
        WeighOff x = new WeighOff(3);
        x.crack(0, 0);
        x.crack(100, 0);
        x.crack(9999, 0);
        Check.state("0 is not measured", () -> x.appeal(0, 1));
        Check.due("the least", 10, () -> x.appeal(1, 1));
        Check.due("the greatest", 999, () -> x.appeal(2, 1));
    }

    @Says("IllegalArgumentException: tenthPounds are neither 0 nor 100 .. 9999, or tenths not "
            + "-99 .. 99.")
    static void promise4RefusesArguments() {
        WeighOff x = new WeighOff(3);
        for (int tenthPounds : NO_TENTH_POUNDS) {
            Check.argument("tenthPounds " + tenthPounds, () -> x.crack(tenthPounds, 0));
        }
        for (int tenths : NO_TENTHS) {
            Check.argument("tenths " + tenths, () -> x.crack(100, tenths));
            Check.argument("not measured, tenths " + tenths, () -> x.crack(0, tenths));
        }
        x.level(false);
        Check.argument("as told, while the level is off", () -> x.crack(0, -100));
        Check.due("the turn stays", 0, x::turn);
        x.crack(0, -99);
        x.crack(0, 99);
        Check.due("the least and the greatest tenths", 2, () -> x.look(3));
    }

    @Says("IllegalStateException: the weigh-off is over.")
    static void promise4RefusesWhenOver() {
        Check.state("nobody in day 4", () -> Runs.over().crack(0, 0));
        Check.state("behind day 6", () -> Runs.overBehindDaySix().crack(100, 0));
        Check.state("all left", () -> Runs.overForAllLeft().crack(9999, 0));
    }

    @Says("The one that has the turn PASSES.")
    static void promise5TheOneThatHasTheTurn() {
        WeighOff x = new WeighOff(3);
        x.pass();
        Check.due("a pass", -2, () -> x.weight(0, 1));
        Check.due("no tilt", NONE, () -> x.tilt(0, 1));
        Check.due("an entry", 1, () -> x.look(3));
        Check.due("the second has none yet", NONE, () -> x.weight(1, 1));
        Check.due("and has the turn", 1, x::turn);
        Check.state("it is no cracked fruit", () -> x.appeal(0, 1));
        Runs.passes(x, 2);
        Check.due("the next day", 2, x::day);
    }

    @Says("IllegalStateException: the weigh-off is over.")
    static void promise5RefusesWhenOver() {
        Check.state("nobody in day 4", () -> Runs.over().pass());
        Check.state("behind day 6", () -> Runs.overBehindDaySix().pass());
        Check.state("all left", () -> Runs.overForAllLeft().pass());
    }

    @Says("A grower LEAVES (if that one has the turn, the next one has it).")
    static void promise6Leaves() {
        WeighOff x = new WeighOff(5);
        x.leave(2);
        Check.due("another one's leaving, turn", 0, x::turn);
        x.leave(0);
        Check.due("the next one has the turn", 1, x::turn);
        x.pass();
        Check.due("who left has none", 3, x::turn);
        x.leave(1);
        Check.due("behind one's entry", 3, x::turn);
        Check.due("how many", 3, () -> x.look(5));
        Check.due("leaving is no entry", 1, () -> x.look(3));
        Check.due("who left has no entry", NONE, () -> x.weight(0, 1));
        Runs.dueOrder("the rest of the day", x, 2, 3, 4);
        Runs.dueOrder("the next day", x, 3, 3, 4);
        WeighOff done = Runs.over();
        done.leave(1);
        Check.due("when it is over", 1, () -> done.look(5));
        Check.due("it stays over", 7, done::day);
    }

    @Says("A grower LEAVES (if that one has the turn, the next one has it).")
    static void promise6LeavingEndsADay() {
        WeighOff x = new WeighOff(4);
        Runs.passes(x, 2);
        x.leave(3);
        Check.due("still this day", 1, x::day);
        x.leave(2);
        Check.due("nobody behind, so the next day", 2, x::day);
        Check.due("its first one", 0, x::turn);
        x.leave(0);
        x.leave(1);
        Check.due("nobody is in", 7, x::day);
        Check.due("nobody has the turn", NONE, x::turn);
        WeighOff y = new WeighOff(3);
        Runs.enter(y, 300, 200, 100, -1, -1, -1, -1, -1);
        y.leave(2);
        Check.due("leaving makes the cut", 4, y::day);
        Runs.dueOrder("without the one that left", y, 5, 1, 0);
        y.leave(1);
        Check.due("the next one of day 5", 0, y::turn);
        y.leave(0);
        Check.due("all left on day 5", 7, y::day);
    }

    @Says("IllegalArgumentException: there is no such grower.")
    static void promise6RefusesArguments() {
        WeighOff x = new WeighOff(3);
        for (int who : NO_GROWER) {
            Check.argument("leave(" + who + ")", () -> x.leave(who));
        }
        Check.due("nobody left", 0, () -> x.look(5));
    }

    @Says("IllegalStateException: that one has LEFT already.")
    static void promise6RefusesTwice() {
        WeighOff x = new WeighOff(3);
        x.leave(2);
        Check.state("at once", () -> x.leave(2));
        Runs.passes(x, 2);
        Check.state("on the next day", () -> x.leave(2));
        Runs.passes(x, 4);
        Check.state("when it is over", () -> x.leave(2));
        x.leave(0);
        Check.due("another one may", 2, () -> x.look(5));
        x.open(3);
        x.leave(2);
        Check.due("in another weigh-off that one may", 1, () -> x.look(5));
    }

    @Says("A CRACKED fruit becomes a SOUND fruit of what was MEASURED (its TILT stays; it is no "
            + "CRACKED fruit any more): its WEIGHT.")
    static void promise7ACrackedFruitBecomesSound() {
        WeighOff x = new WeighOff(3);
        x.crack(4567, 20);
        x.crack(4569, 5);
        x.crack(0, 0);
        Check.due("its weight", 456, () -> x.appeal(0, 1));
        Check.due("told", 456, () -> x.weight(0, 1));
        Check.due("its tilt stays", 20, () -> x.tilt(0, 1));
        Check.due("it is a record", 456, () -> x.look(0));
        Check.due("the best", 456, () -> x.best(0));
        Check.due("the place", 1, () -> x.place(0));
        Check.due("before another", 2, () -> x.place(1));
        Check.due("no more entries", 3, () -> x.look(3));
        Check.due("the turn stays", 0, x::turn);
        Check.state("it is no cracked fruit any more", () -> x.appeal(0, 1));
        Check.due("another one's stays cracked", -1, () -> x.weight(1, 1));
        Check.due("alike", 456, () -> x.appeal(1, 1));
        Check.due("which is no record", 1, () -> x.look(2));
    }

    @Says("A CRACKED fruit becomes a SOUND fruit of what was MEASURED (its TILT stays; it is no "
            + "CRACKED fruit any more): its WEIGHT.")
    static void promise7ItsTiltStaysWhateverTheLevelIs() {
        WeighOff x = new WeighOff(3);
        x.crack(8020, -99);
        x.level(false);
        x.crack(8030, 0);
        x.appeal(0, 1);
        Check.due("it has the tilt that it had", -99, () -> x.tilt(0, 1));
        Check.due("and is a record by it", 802, () -> x.look(0));
        x.level(true);
        x.appeal(1, 1);
        Check.due("it has none, as it had none", NONE, () -> x.tilt(1, 1));
        Check.due("and is no record", 802, () -> x.look(0));
    }

    @Says("This may be at any time;")
    static void promise7AtAnyTime() {
        WeighOff x = new WeighOff(3);
        for (int day = 1; day <= 3; day++) {
            x.crack(3000 + day * 10, 0);
            Runs.passes(x, 2);
        }
        Check.due("over, for nobody has a weight", 7, x::day);
        Check.due("when it is over", 301, () -> x.appeal(0, 1));
        x.leave(0);
        Check.due("of one that left", 302, () -> x.appeal(0, 2));
        Check.due("it stays over", 7, x::day);
        Check.due("so does the turn", NONE, x::turn);
        x.open(3);
        x.crack(5000, 0);
        Check.due("at once", 500, () -> x.appeal(0, 1));
        x.crack(5010, 0);
        Runs.passes(x, 4);
        Check.due("on another day", 501, () -> x.appeal(1, 1));
        Runs.passes(x, 3);
        Check.due("both are in", 4, x::day);
        x.crack(5020, 0);
        Runs.passes(x, 1);
        Check.due("on day 5", 502, () -> x.appeal(0, 4));
    }

    @Says("THE CUT and an ORDER that were stay.")
    static void promise7TheCutAndAnOrderStay() {
        WeighOff x = new WeighOff(4);
        x.crack(9000, 0);
        Runs.enter(x, 300, 200);
        x.crack(8000, 0);
        Runs.enter(x, 150, -1, -1, -1, -1, -1, -1, -1);
        Check.due("day 4", 4, x::day);
        x.appeal(3, 1);
        x.appeal(0, 1);
        Check.due("place 1 now", 1, () -> x.place(0));
        Check.due("place 2 now", 2, () -> x.place(3));
        Runs.dueOrder("the order of day 4 stays", x, 5, 0, 2, 1);
        Runs.dueOrder("that of day 5 too, and 3 isn't in", x, 6, 0, 2, 1);
        Runs.dueOrder("that of day 6 is by the new places", x, 7, 2, 1, 0);
    }

    @Says("THE CUT and an ORDER that were stay.")
    static void promise7AnOrderOfTheLastDayStays() {
        WeighOff x = new WeighOff(3);
        Runs.enter(x, 300, 200, 100);
        Runs.passes(x, 9);
        x.crack(9000, 0);
        Runs.passes(x, 2);
        Check.due("day 6", 6, x::day);
        x.appeal(2, 5);
        Check.due("place 1 now", 1, () -> x.place(2));
        Runs.dueOrder("by the places when day 5 was over", x, 7, 2, 1, 0);
    }

    @Says("IllegalArgumentException: there is no such grower or day.")
    static void promise7RefusesArguments() {
        WeighOff x = new WeighOff(3);
        x.crack(5000, 0);
        refuses("grower", NO_GROWER, who -> x.appeal(who, 1));
        refuses("day", NO_DAY, day -> x.appeal(0, day));
        Check.due("it stays cracked", -1, () -> x.weight(0, 1));
    }

    @Says("IllegalStateException: no CRACKED fruit stands there, or it was not MEASURED.")
    static void promise7RefusesWhatIsNotThere() {
        WeighOff x = new WeighOff(4);
        x.weigh(3000, 0);
        x.pass();
        x.crack(0, 0);
        Check.state("a sound fruit", () -> x.appeal(0, 1));
        Check.state("a pass", () -> x.appeal(1, 1));
        Check.state("not measured", () -> x.appeal(2, 1));
        Check.state("no entry yet", () -> x.appeal(3, 1));
        x.crack(5000, 0);
        Check.state("another day", () -> x.appeal(3, 2));
        Check.state("the last day", () -> x.appeal(3, 6));
        x.appeal(3, 1);
        Check.state("twice", () -> x.appeal(3, 1));
    }

    @Says("The level is on or off from now on:")
    static void promise8FromNowOn() {
        WeighOff x = new WeighOff(4);
        x.weigh(5000, 3);
        x.level(false);
        Check.due("a tilt that was taken stays", 3, () -> x.tilt(0, 1));
        x.weigh(4000, 4);
        x.crack(4000, 5);
        x.level(true);
        Check.due("sound, none while it was off", NONE, () -> x.tilt(1, 1));
        Check.due("cracked, none while it was off", NONE, () -> x.tilt(2, 1));
        x.weigh(3000, 6);
        Check.due("on again", 6, () -> x.tilt(3, 1));
    }

    @Says("whether that is another thing than before.")
    static void promise8WhetherItIsAnotherThing() {
        WeighOff x = new WeighOff(3);
        Check.holds("on at first", false, x.level(true));
        Check.holds("off", true, x.level(false));
        Check.holds("off again", false, x.level(false));
        Check.holds("on", true, x.level(true));
        Check.holds("on again", false, x.level(true));
        Check.holds("when it is over", true, Runs.over().level(false));
    }

    @Says("THE RECORD is so many pounds; 0: there is none.")
    static void promise9SetsTheRecord() {
        WeighOff x = new WeighOff(4);
        x.record(999);
        Check.due("most", 999, () -> x.look(0));
        x.record(1);
        Check.due("least", 1, () -> x.look(0));
        Check.due("no prize by it", NONE, () -> x.look(1));
        Check.due("setting is no record", 0, () -> x.look(2));
        x.record(500);
        x.weigh(5009, 0);
        Check.due("alike is none", 0, () -> x.look(2));
        x.weigh(5010, 0);
        Check.due("above is one", 1, () -> x.look(2));
        x.record(0);
        Check.due("none", NONE, () -> x.look(0));
        Check.due("the count stays", 1, () -> x.look(2));
        x.weigh(100, 0);
        Check.due("any one, when there is none", 10, () -> x.look(0));
    }

    @Says("IllegalArgumentException: the number isn't 0 .. 999.")
    static void promise9Refuses() {
        WeighOff x = new WeighOff(3);
        x.record(10);
        for (int pounds : NO_POUNDS) {
            Check.argument("record(" + pounds + ")", () -> x.record(pounds));
        }
        Check.due("it stays", 10, () -> x.look(0));
    }

    @Says("THE PRIZE is so many pounds; 0: there is none.")
    static void promise10SetsThePrize() {
        WeighOff x = new WeighOff(3);
        x.weigh(9989, 21);
        x.prize(999);
        Check.due("most", 999, () -> x.look(1));
        Check.holds("998 is less", false, x.wins(0));
        x.prize(998);
        Check.holds("998 is as much", true, x.wins(0));
        Check.due("no record by it", NONE, () -> x.look(0));
        x.prize(1);
        Check.due("least", 1, () -> x.look(1));
        Check.holds("it is more", true, x.wins(0));
        x.prize(0);
        Check.due("none", NONE, () -> x.look(1));
        Check.holds("nobody wins", false, x.wins(0));
    }

    @Says("IllegalArgumentException: the number isn't 0 .. 999.")
    static void promise10Refuses() {
        WeighOff x = new WeighOff(3);
        x.prize(10);
        for (int pounds : NO_POUNDS) {
            Check.argument("prize(" + pounds + ")", () -> x.prize(pounds));
        }
        Check.due("it stays", 10, () -> x.look(1));
    }

    @Says("Who has the turn;")
    static void promise11WhoHasTheTurn() {
        WeighOff x = new WeighOff(3);
        Check.due("the first", 0, x::turn);
        x.weigh(1000, 0);
        Check.due("behind a sound fruit", 1, x::turn);
        x.crack(0, 0);
        Check.due("behind a cracked fruit", 2, x::turn);
        x.weigh(9000, 0);
        Check.due("the next day", 0, x::turn);
        x.pass();
        Check.due("behind a pass", 1, x::turn);
        x.leave(1);
        Check.due("behind one that leaves", 2, x::turn);
        x.pass();
        Runs.dueOrder("day 3", x, 4, 0, 2);
        Runs.dueOrder("day 4", x, 5, 0, 2);
        Runs.dueOrder("day 5", x, 6, 0, 2);
        Runs.dueOrder("day 6", x, 7, 0, 2);
    }

    @Says("NONE when the weigh-off is over.")
    static void promise11NoneWhenOver() {
        Check.due("nobody in day 4", NONE, () -> Runs.over().turn());
        Check.due("behind day 6", NONE, () -> Runs.overBehindDaySix().turn());
        Check.due("all left", NONE, () -> Runs.overForAllLeft().turn());
    }

    @Says("The day;")
    static void promise12TheDay() {
        WeighOff x = new WeighOff(3);
        Runs.enter(x, 300, 200);
        Check.due("to its last entry", 1, x::day);
        x.weigh(1000, 0);
        for (int day = 2; day <= 6; day++) {
            Check.due("from its first entry", day, x::day);
            Runs.passes(x, 2);
            Check.due("to its last entry", day, x::day);
            x.pass();
        }
    }

    @Says("7 when the weigh-off is over.")
    static void promise12SevenWhenOver() {
        Check.due("nobody in day 4", 7, () -> Runs.over().day());
        Check.due("behind day 6", 7, () -> Runs.overBehindDaySix().day());
        Check.due("all left", 7, () -> Runs.overForAllLeft().day());
    }

    @Says("Of a grower's entry on a day: the WEIGHT; -1 a CRACKED fruit, -2 a PASS, NONE if there "
            + "was none.")
    static void promise13OfAnEntry() {
        WeighOff x = new WeighOff(3);
        Runs.enter(x, 300, 0, -1, -1);
        Check.due("sound", 300, () -> x.weight(0, 1));
        Check.due("cracked", -1, () -> x.weight(1, 1));
        Check.due("a pass", -2, () -> x.weight(2, 1));
        Check.due("the next day's", -2, () -> x.weight(0, 2));
        Check.due("none yet", NONE, () -> x.weight(1, 2));
        Check.due("none on day 6", NONE, () -> x.weight(2, 6));
        x.crack(4009, 0);
        Check.due("cracked and measured", -1, () -> x.weight(1, 2));
        x.appeal(1, 2);
        Check.due("sound by an appeal", 400, () -> x.weight(1, 2));
        x.leave(2);
        Check.due("none of one that left", NONE, () -> x.weight(2, 2));
        WeighOff y = Runs.lastEntryOfDaySix();
        y.weigh(5000, 0);
        Check.due("on day 6", 500, () -> y.weight(0, 6));
        Check.due("on day 1", 300, () -> y.weight(0, 1));
    }

    @Says("IllegalArgumentException: there is no such grower or day.")
    static void promise13Refuses() {
        WeighOff x = new WeighOff(3);
        refuses("grower", NO_GROWER, who -> x.weight(who, 1));
        refuses("day", NO_DAY, day -> x.weight(0, day));
    }

    @Says("The TILT of a grower's entry on a day;")
    static void promise14OfAnEntry() {
        WeighOff x = new WeighOff(3);
        x.weigh(5000, 99);
        x.crack(0, -99);
        x.weigh(5000, 0);
        x.weigh(5000, 1);
        Check.due("sound", 99, () -> x.tilt(0, 1));
        Check.due("cracked", -99, () -> x.tilt(1, 1));
        Check.due("0", 0, () -> x.tilt(2, 1));
        Check.due("the next day's", 1, () -> x.tilt(0, 2));
        WeighOff y = Runs.lastEntryOfDaySix();
        y.weigh(5000, 50);
        Check.due("on day 6", 50, () -> y.tilt(0, 6));
    }

    @Says("NONE if it has none, or there was none.")
    static void promise14None() {
        WeighOff x = new WeighOff(4);
        x.pass();
        x.level(false);
        x.weigh(5000, 1);
        x.crack(5000, 1);
        Check.due("a pass", NONE, () -> x.tilt(0, 1));
        Check.due("sound, the level off", NONE, () -> x.tilt(1, 1));
        Check.due("cracked, the level off", NONE, () -> x.tilt(2, 1));
        Check.due("no entry", NONE, () -> x.tilt(3, 1));
        Check.due("no entry on day 6", NONE, () -> x.tilt(0, 6));
    }

    @Says("IllegalArgumentException: there is no such grower or day.")
    static void promise14Refuses() {
        WeighOff x = new WeighOff(3);
        refuses("grower", NO_GROWER, who -> x.tilt(who, 1));
        refuses("day", NO_DAY, day -> x.tilt(0, day));
    }

    @Says("A grower's BEST; NONE.")
    static void promise15Best() {
        WeighOff x = new WeighOff(4);
        Runs.enter(x, 300, 0, 500, -1, 310, -1, 400);
        Check.due("the later one", 310, () -> x.best(0));
        Check.due("cracked and passed", NONE, () -> x.best(1));
        Check.due("the earlier one", 500, () -> x.best(2));
        Check.due("passed", NONE, () -> x.best(3));
        x.leave(2);
        Check.due("of one that left", 500, () -> x.best(2));
        x.crack(9000, 0);
        Check.due("cracked and measured", NONE, () -> x.best(3));
        x.appeal(3, 2);
        Check.due("appealed", 900, () -> x.best(3));
    }

    @Says("IllegalArgumentException: there is no such grower.")
    static void promise15Refuses() {
        WeighOff x = new WeighOff(3);
        refuses("grower", NO_GROWER, x::best);
        Check.argument("there is no thirteenth", () -> new WeighOff(12).best(12));
    }

    @Says("A grower's PLACE.")
    static void promise16Place() {
        WeighOff x = new WeighOff(12);
        Runs.enter(x, 10, 30, 20, 30, 0, -1, 40, 40, 40, 50, 60, 50);
        int[] places = {10, 7, 9, 7, 11, 11, 4, 4, 4, 2, 1, 2};
        for (int who = 0; who < 12; who++) {
            int each = who;
            Check.due("place of " + who, places[who], () -> x.place(each));
        }
        x.leave(10);
        Check.due("of one that left", 1, () -> x.place(10));
        Check.due("behind one that left", 2, () -> x.place(9));
    }

    @Says("IllegalArgumentException: there is no such grower.")
    static void promise16Refuses() {
        WeighOff x = new WeighOff(3);
        refuses("grower", NO_GROWER, x::place);
    }

    @Says("Whether a grower WINS.")
    static void promise17Wins() {
        WeighOff x = new WeighOff(3);
        Runs.enter(x, 500, 499, 0);
        Check.holds("no prize", false, x.wins(0));
        x.prize(500);
        Check.holds("as much", true, x.wins(0));
        Check.holds("less", false, x.wins(1));
        x.prize(1);
        Check.holds("more", true, x.wins(1));
        Check.holds("no best", false, x.wins(2));
        x.leave(0);
        Check.holds("one that left", true, x.wins(0));
        x.prize(0);
        Check.holds("no prize any more", false, x.wins(0));
    }

    @Says("IllegalArgumentException: there is no such grower.")
    static void promise17Refuses() {
        WeighOff x = new WeighOff(3);
        refuses("grower", NO_GROWER, x::wins);
    }

    @Says("How many of all entries of this weigh-off have a WEIGHT (what 0) or TILT (1) that "
            + "stands to a number (NONE: none) by a SIGN so;")
    static void promise18Counts() {
        WeighOff x = board();
        signs("weights to 500", x::count, 0, 500, 1, 2, 0, 1, 1, 4);
        signs("weights to 300", x::count, 0, 300, 0, 1, 1, 2, 1, 4);
        signs("weights to none", x::count, 0, NONE, 0, 0, 0, 0, 0, 5);
        signs("tilts to 5", x::count, 1, 5, 1, 2, 1, 2, 1, 4);
        signs("tilts to -7", x::count, 1, -7, 0, 1, 2, 3, 1, 4);
        signs("tilts to none", x::count, 1, NONE, 0, 0, 0, 0, 0, 5);
        signs("tilts to the least", x::count, 1, LEAST, 0, 0, 3, 3, 0, 5);
        signs("weights to the greatest", x::count, 0, GREATEST, 2, 2, 0, 0, 0, 5);
        x.appeal(1, 1);
        Check.due("an appeal counts", 2, () -> x.count(0, 4, 500));
        x.leave(0);
        Check.due("those that left count, too", 2, () -> x.count(0, 4, 500));
        x.open(4);
        signs("no entries", x::count, 0, NONE, 0, 0, 0, 0, 0, 0);
        WeighOff y = new WeighOff(12);
        for (int entry = 0; entry < 72; entry++) {
            y.weigh(5000, 20);
        }
        signs("all weights", y::count, 0, 500, 0, 72, 0, 72, 72, 0);
        signs("all tilts", y::count, 1, 20, 0, 72, 0, 72, 72, 0);
    }

    @Says("an entry that has none has none there.")
    static void promise18AnEntryThatHasNone() {
        WeighOff x = new WeighOff(4);
        x.crack(5000, 0);
        x.crack(0, 0);
        x.pass();
        signs("weights to 0", x::count, 0, 0, 0, 0, 0, 0, 0, 3);
        signs("weights to -1", x::count, 0, -1, 0, 0, 0, 0, 0, 3);
        signs("weights to -2", x::count, 0, -2, 0, 0, 0, 0, 0, 3);
        signs("the tilt of a pass to 0", x::count, 1, 0, 0, 2, 0, 2, 2, 1);
        x.level(false);
        x.weigh(5000, 0);
        signs("the level was off", x::count, 1, 0, 0, 2, 0, 2, 2, 2);
    }

    @Says("IllegalArgumentException: there is no such what or SIGN.")
    static void promise18Refuses() {
        refusesWhatAndSign(board()::count);
    }

    @Says("The least number of a grower whose latest entry has a WEIGHT (what 0) or TILT (1) that "
            + "stands so, likewise;")
    static void promise19TheLeastNumber() {
        WeighOff x = board();
        signs("weights to 300", x::first, 0, 300, NONE, 0, NONE, 0, 0, 1);
        signs("weights to 500", x::first, 0, 500, 0, 0, NONE, NONE, NONE, 0);
        signs("weights to none", x::first, 0, NONE, NONE, NONE, NONE, NONE, NONE, 0);
        signs("tilts to -7", x::first, 1, -7, NONE, 0, NONE, 0, 0, 1);
        signs("tilts to 5", x::first, 1, 5, 0, 0, NONE, NONE, NONE, 0);
        WeighOff y = new WeighOff(12);
        for (int who = 0; who < 12; who++) {
            y.weigh(1000 + who / 2 * 10, who / 2);
        }
        for (int who = 0; who < 12; who += 2) {
            int each = who;
            Check.due("of two alike", who, () -> y.first(0, 4, 100 + each / 2));
            Check.due("of two alike, tilt", who, () -> y.first(1, 4, each / 2));
        }
        y.pass();
        Check.due("the latest entry counts", 1, () -> y.first(0, 4, 100));
        Check.due("the latest tilt counts", 1, () -> y.first(1, 4, 0));
        y.leave(1);
        Check.due("one that left, too", 1, () -> y.first(0, 4, 100));
    }

    @Says("The least number of a grower whose latest entry has a WEIGHT (what 0) or TILT (1) that "
            + "stands so, likewise;")
    static void promise19AnEntryThatHasNone() {
        WeighOff x = new WeighOff(3);
        x.crack(5000, 3);
        signs("the weight of a cracked one", x::first, 0, 500, NONE, NONE, NONE, NONE, NONE, 0);
        signs("its tilt", x::first, 1, 3, NONE, 0, NONE, 0, 0, NONE);
        WeighOff y = new WeighOff(3);
        y.pass();
        signs("the weight of a pass", y::first, 0, -2, NONE, NONE, NONE, NONE, NONE, 0);
        signs("the tilt of a pass", y::first, 1, 0, NONE, NONE, NONE, NONE, NONE, 0);
    }

    @Says("one without an entry yet is none of them.")
    static void promise19WithoutAnEntry() {
        WeighOff x = new WeighOff(3);
        x.leave(0);
        x.weigh(3000, 1);
        Check.due("one that left without", 1, () -> x.first(0, 5, NONE));
        Check.due("nor by the tilt", 1, () -> x.first(1, 5, 50));
        Check.due("one to come", NONE, () -> x.first(0, 5, 300));
        Check.due("nor by the tilt", NONE, () -> x.first(1, 5, 1));
    }

    @Says("NONE if there is no such grower.")
    static void promise19None() {
        WeighOff x = new WeighOff(12);
        signs("no entries", x::first, 0, NONE, NONE, NONE, NONE, NONE, NONE, NONE);
        signs("no tilts", x::first, 1, 0, NONE, NONE, NONE, NONE, NONE, NONE);
        Runs.passes(x, 11);
        x.weigh(3000, -5);
        Check.due("the last of twelve", 11, () -> x.first(1, 4, -5));
        Check.due("none of twelve", NONE, () -> x.first(0, 2, 300));
        Check.due("none by the tilt", NONE, () -> x.first(1, 0, -5));
    }

    @Says("IllegalArgumentException: there is no such what or SIGN.")
    static void promise19Refuses() {
        refusesWhatAndSign(board()::first);
    }

    @Says("Lamps, 2 to the power of its number each, of all growers whose BEST (what 0), or the "
            + "TILT of whose latest entry (1; none without an entry), stands so, together.")
    static void promise20Lamps() {
        WeighOff x = board();
        signs("bests to 500", x::lamps, 0, 500, 0, 1, 0, 1, 1, 14);
        signs("bests to 499", x::lamps, 0, 499, 0, 0, 1, 1, 0, 15);
        signs("bests to none", x::lamps, 0, NONE, 0, 0, 0, 0, 0, 15);
        signs("tilts to -7", x::lamps, 1, -7, 0, 1, 0, 1, 1, 14);
        signs("tilts to -6", x::lamps, 1, -6, 1, 1, 0, 0, 0, 15);
        signs("the latest is a pass", x::lamps, 1, 9, 1, 1, 0, 0, 0, 15);
        x.open(12);
        signs("no entries", x::lamps, 0, 0, 0, 0, 0, 0, 0, 4095);
        signs("no entries, tilts", x::lamps, 1, 0, 0, 0, 0, 0, 0, 4095);
        Runs.enter(x, 100, 200, 300, 400, 500, 600, 700, 800, 900, 100, 200, 300);
        Check.due("several", 8 + 16 + 32 + 64 + 128 + 256, () -> x.lamps(0, 2, 300));
        x.leave(8);
        Check.due("one that left, too", 256, () -> x.lamps(0, 4, 900));
        for (int who = 0; who < 12; who++) {
            x.open(12);
            for (int each = 0; each < 12; each++) {
                x.weigh(each == who ? 5000 : 4000, each == who ? 5 : 4);
            }
            int due = 1 << who;
            Check.due("of " + who, due, () -> x.lamps(0, 4, 500));
            Check.due("of " + who + ", tilt", due, () -> x.lamps(1, 4, 5));
        }
    }

    @Says("IllegalArgumentException: there is no such what or SIGN.")
    static void promise20Refuses() {
        refusesWhatAndSign(board()::lamps);
    }

    @Says("How two growers' BESTS stand (what 0), or the TILTS of their latest entries (1; none "
            + "without an entry): 2 to the power of the SIGN each, of all SIGNS that hold, "
            + "together.")
    static void promise21HowTwoStand() {
        WeighOff x = new WeighOff(5);
        x.weigh(5000, 9);
        x.weigh(4000, 8);
        x.weigh(5000, 7);
        x.pass();
        x.leave(4);
        x.weigh(1000, 8);
        Check.due("above", 4 + 8 + 32, () -> x.stands(0, 0, 1));
        Check.due("below", 1 + 2 + 32, () -> x.stands(0, 1, 2));
        Check.due("alike", 2 + 8 + 16, () -> x.stands(0, 0, 2));
        Check.due("to oneself", 2 + 8 + 16, () -> x.stands(0, 1, 1));
        Check.due("one has none", 32, () -> x.stands(0, 0, 3));
        Check.due("the other has none", 32, () -> x.stands(0, 4, 0));
        Check.due("both have none", 32, () -> x.stands(0, 3, 3));
        Check.due("the latest tilts are alike", 2 + 8 + 16, () -> x.stands(1, 0, 1));
        Check.due("tilt above", 4 + 8 + 32, () -> x.stands(1, 0, 2));
        Check.due("tilt below", 1 + 2 + 32, () -> x.stands(1, 2, 1));
        Check.due("no entry", 32, () -> x.stands(1, 4, 4));
        Check.due("a pass", 32, () -> x.stands(1, 3, 0));
        x.leave(0);
        Check.due("one that left", 4 + 8 + 32, () -> x.stands(0, 0, 1));
    }

    @Says("IllegalArgumentException: there is no such what or grower.")
    static void promise21Refuses() {
        WeighOff x = new WeighOff(3);
        refuses("what", NO_WHAT, what -> x.stands(what, 0, 0));
        refuses("one", NO_GROWER, one -> x.stands(0, one, 0));
        refuses("other", NO_GROWER, other -> x.stands(0, 0, other));
        refuses("one, tilts", NO_GROWER, one -> x.stands(1, one, 0));
        refuses("other, tilts", NO_GROWER, other -> x.stands(1, 0, other));
    }

    @Says("The greatest TILT of a day's entries, or (least) the least one; NONE if none has one.")
    static void promise22Lean() {
        WeighOff x = new WeighOff(4);
        x.weigh(5000, -3);
        x.crack(0, -9);
        x.pass();
        x.weigh(5000, -2);
        x.pass();
        x.level(false);
        x.weigh(5000, 50);
        Check.due("greatest", -2, () -> x.lean(1, false));
        Check.due("least", -9, () -> x.lean(1, true));
        Check.due("none has one, greatest", NONE, () -> x.lean(2, false));
        Check.due("none has one, least", NONE, () -> x.lean(2, true));
        Check.due("no entries", NONE, () -> x.lean(6, true));
        x.level(true);
        x.crack(0, 4);
        Check.due("only one, greatest", 4, () -> x.lean(2, false));
        Check.due("only one, least", 4, () -> x.lean(2, true));
        Check.due("the day before stays", -2, () -> x.lean(1, false));
        x.leave(3);
        x.leave(1);
        Check.due("of those that left, too, greatest", -2, () -> x.lean(1, false));
        Check.due("of those that left, too, least", -9, () -> x.lean(1, true));
        WeighOff y = Runs.lastEntryOfDaySix();
        y.weigh(500, -99);
        Check.due("of day 6", -99, () -> y.lean(6, false));
    }

    @Says("IllegalArgumentException: there is no such day.")
    static void promise22Refuses() {
        WeighOff x = new WeighOff(3);
        refuses("greatest, day", NO_DAY, day -> x.lean(day, false));
        refuses("least, day", NO_DAY, day -> x.lean(day, true));
    }

    @Says("What 0: THE RECORD (NONE), 1: THE PRIZE (NONE), 2: how many SOUND fruits were records "
            + "since the beginning (of all weigh-offs), 3: how many entries this weigh-off had, 4: "
            + "how many growers it has, 5: how many LEFT.")
    static void promise23Looks() {
        WeighOff x = new WeighOff(4);
        dueLooks("at first", x, NONE, NONE, 0, 0, 4, 0);
        x.weigh(5000, 5);
        x.crack(7000, 9);
        x.pass();
        x.leave(3);
        dueLooks("on day 2", x, 500, NONE, 1, 3, 4, 1);
        x.appeal(1, 1);
        x.prize(7);
        dueLooks("an appeal is a record, no entry", x, 700, 7, 2, 3, 4, 1);
        x.record(100);
        x.weigh(3000, -7);
        dueLooks("a lower record", x, 300, 7, 3, 4, 4, 1);
        x.open(3);
        dueLooks("another weigh-off", x, 300, 7, 3, 0, 3, 0);
        x.weigh(6000, 0);
        x.leave(0);
        x.leave(2);
        dueLooks("records of both", x, 600, 7, 4, 1, 3, 2);
        x.record(0);
        x.prize(0);
        dueLooks("no record and no prize", x, NONE, NONE, 4, 1, 3, 2);
    }

    private static void dueLooks(String what, WeighOff x, int... due) {
        for (int nth = 0; nth < due.length; nth++) {
            int each = nth;
            Check.due(what + ", look(" + nth + ")", due[nth], () -> x.look(each));
        }
    }

    @Says("IllegalArgumentException: another what.")
    static void promise23Refuses() {
        WeighOff x = new WeighOff(3);
        refuses("what", new int[] {-1, 6, 7, NONE, LEAST, GREATEST}, x::look);
    }
}
