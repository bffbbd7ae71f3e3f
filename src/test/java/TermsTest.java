/**
 * Each sentence of 'What it is', 'Terms' and 'Not promised' that says what a call answers or
 * changes, in the document's order: a test bears the sentence.
 */
public final class TermsTest {
    private static final int NONE = -1000000;

    public static void main(String[] args) {
        Check.each(TermsTest.class);
        Check.end();
    }

    /** Weights of day 1 as told (0 cracks, -1 passes), then all pass to the end of day 3. */
    private static WeighOff atTheCut(int... pounds) {
        WeighOff x = new WeighOff(pounds.length);
        Runs.enter(x, pounds);
        Runs.passes(x, 2 * pounds.length);
        return x;
    }

    private static void duePlaces(String what, WeighOff x, int... places) {
        for (int who = 0; who < places.length; who++) {
            int each = who;
            Check.due(what + ", place of " + who, places[who], () -> x.place(each));
        }
    }

    @Says("An object is used for at most 512 calls after it has been made;")
    static void whatItIsCallsUpToTheLast() {
        WeighOff x = new WeighOff(12);
        for (int round = 1; round <= 128; round++) {
            int entries = (round - 1) % 72 + 1;
            if (entries == 1) {
                x.open(12);
            } else {
                Check.argument("a refused call", () -> x.open(13));
            }
            Check.due("a fruit", 500, () -> x.weigh(5009, 20));
            Check.due("the entries", entries, () -> x.look(3));
            Check.due("the records, call " + 4 * round, 1, () -> x.look(2));
        }
    }

    @Says("GROWERS are 0 .. n - 1, n being 3 .. 12.")
    static void termsGrowers() {
        for (int growers = 3; growers <= 12; growers++) {
            WeighOff x = new WeighOff(growers);
            int behind = growers;
            Check.due("how many", growers, () -> x.look(4));
            for (int who = 0; who < growers; who++) {
                int each = who;
                Check.due("grower " + who, 1, () -> x.place(each));
            }
            Check.argument("one before them", () -> x.place(-1));
            Check.argument("one behind them", () -> x.place(behind));
        }
    }

    @Says("There are six DAYS, 1 .. 6.")
    static void termsDays() {
        WeighOff x = new WeighOff(3);
        for (int day = 1; day <= 6; day++) {
            int each = day;
            Check.due("the day", day, x::day);
            Runs.enter(x, 100 + day, 100 + day, 100 + day);
            Check.due("on day " + day, 100 + day, () -> x.weight(2, each));
        }
        Check.due("no seventh", 7, x::day);
        Check.state("no entry on it", () -> x.weigh(500, 0));
        Check.argument("none before them", () -> x.weight(0, 0));
        Check.argument("none behind them", () -> x.weight(0, 7));
    }

    @Says("On a day each grower that is IN it has one ENTRY, in the day's ORDER.")
    static void termsOneEntryADayInTheOrder() {
        WeighOff x = atTheCut(300, 0, 100, 200);
        int[] order = {2, 3, 0};
        for (int nth = 0; nth < order.length; nth++) {
            int who = order[nth];
            int entries = 12 + nth;
            Check.due("the turn", who, x::turn);
            Check.due("no entry yet", NONE, () -> x.weight(who, 4));
            x.weigh(5000, 0);
            Check.due("the entry", 500, () -> x.weight(who, 4));
            Check.due("one more", entries + 1, () -> x.look(3));
        }
        Check.due("no second one, but the next day", 5, x::day);
        Check.due("who isn't in has none", NONE, () -> x.weight(1, 4));
    }

    @Says("On days 1 to 3 all are IN that have not LEFT, by their numbers.")
    static void termsDaysOneToThree() {
        WeighOff x = new WeighOff(4);
        Runs.enter(x, 100, 0, 900, -1);
        Runs.dueOrder("whatever was entered", x, 3, 0, 1, 2, 3);
        x.leave(2);
        Runs.dueOrder("without the one that left", x, 4, 0, 1, 3);
        WeighOff y = new WeighOff(12);
        y.leave(0);
        y.leave(11);
        for (int day = 1; day <= 2; day++) {
            Runs.dueOrder("ten of twelve", y, day + 1, 1, 2, 3, 4, 5, 6, 7, 8, 9, 10);
        }
    }

    @Says("When day 3 is over comes THE CUT: on days 4 to 6 those are IN that had a WEIGHT and a "
            + "PLACE of 8 or less then, and have not LEFT;")
    static void termsTheCut() {
        WeighOff x = new WeighOff(12);
        Runs.enter(x, 100, 200, 300, 400, 500, 600, 700, 800, 900, 950, 960, 970);
        x.leave(11);
        x.leave(5);
        Runs.passes(x, 20);
        Check.due("the place of one that left", 1, () -> x.place(11));
        Check.due("place 8", 8, () -> x.place(4));
        Check.due("place 9", 9, () -> x.place(3));
        Runs.dueOrder("day 4", x, 5, 4, 6, 7, 8, 9, 10);
        x.leave(8);
        Runs.dueOrder("day 5, without another", x, 6, 4, 6, 7, 9, 10);
        x.leave(4);
        Runs.dueOrder("day 6, without a third", x, 7, 6, 7, 9, 10);
        WeighOff y = new WeighOff(3);
        Runs.enter(y, 300, 200, 100);
        y.leave(2);
        Runs.passes(y, 4);
        Check.due("the first of day 4 had left", 1, y::turn);
        y.pass();
        y.leave(1);
        y.pass();
        Runs.dueOrder("the first of day 5 had left", y, 6, 0);
    }

    @Says("When day 3 is over comes THE CUT: on days 4 to 6 those are IN that had a WEIGHT and a "
            + "PLACE of 8 or less then, and have not LEFT;")
    static void termsTheCutByAWeightAndByThePlacesThen() {
        WeighOff x = atTheCut(300, 0, 200, -1);
        Check.due("place 3 without a weight", 3, () -> x.place(1));
        Runs.dueOrder("only those with a weight", x, 5, 2, 0);
        WeighOff y = atTheCut(90, 80, 70, 60, 50, 40, 30, 20, 10);
        Runs.dueOrder("the ninth is out", y, 5, 7, 6, 5, 4, 3, 2, 1, 0);
        WeighOff many = atTheCut(90, 90, 90, 90, 90, 90, 90, 90, 90, 90);
        Runs.enter(many, 80, 79, 78, 77, 76, 75, 74, 73, 72, 71);
        Check.due("place 10 now", 10, () -> many.place(0));
        Runs.dueOrder("day 5, by the places then", many, 6, 9, 8, 7, 6, 5, 4, 3, 2, 1, 0);
        Runs.dueOrder("day 6, still in", many, 7, 0, 1, 2, 3, 4, 5, 6, 7, 8, 9);
        WeighOff z = new WeighOff(3);
        Runs.passes(z, 6);
        Runs.enter(z, 300, -1, 100);
        Runs.dueOrder("what day 3 brings counts", z, 5, 2, 0);
    }

    @Says("the ORDER of days 4 and 5 is by the PLACES that they had at THE CUT, the greatest PLACE "
            + "first, of those of one PLACE the greatest number first;")
    static void termsOrderOfDaysFourAndFive() {
        WeighOff x = atTheCut(400, 300, 200, 100);
        Check.due("the greatest place first", 3, x::turn);
        Runs.enter(x, 900, 300, -1, -1);
        duePlaces("other places now", x, 2, 4, 3, 1);
        Runs.dueOrder("day 5 is by those at the cut", x, 6, 3, 2, 1, 0);
        WeighOff y = atTheCut(900, 500, 500, 500, 500, 500, 500, 500, 500, 500, 800, 0);
        Check.due("nine share a place", 3, () -> y.place(9));
        Runs.dueOrder("the greatest number first", y, 5, 9, 8, 7, 6, 5, 4, 3, 2, 1, 10, 0);
        Runs.dueOrder("on day 5 too", y, 6, 9, 8, 7, 6, 5, 4, 3, 2, 1, 10, 0);
    }

    @Says("that of day 6 likewise, by the PLACES when day 5 was over.")
    static void termsOrderOfDaySix() {
        WeighOff x = atTheCut(400, 300, 200, 100);
        Runs.enter(x, 900, 300, -1, -1);
        Runs.enter(x, -1, -1, 800, -1);
        duePlaces("when day 5 is over", x, 3, 2, 4, 1);
        Check.due("the greatest place first", 2, x::turn);
        x.weigh(9990, 0);
        Runs.dueOrder("it stays", x, 7, 0, 1, 3);
        WeighOff y = atTheCut(400, 300, 200, 100);
        Runs.enter(y, -1, 300, 200, -1, -1, -1, -1);
        Check.due("the last entry of day 5", 0, y::turn);
        y.weigh(1000, 0);
        duePlaces("two share a place", y, 1, 2, 2, 4);
        Runs.dueOrder("the greatest number first", y, 7, 3, 2, 1, 0);
    }

    @Says("A day is over when nobody of its ORDER, behind the one whose entry was last, has one to "
            + "come; the next one that is IN has the TURN.")
    static void termsADayIsOver() {
        WeighOff x = new WeighOff(5);
        x.leave(1);
        x.pass();
        Check.due("one that left is passed over", 2, x::turn);
        x.leave(4);
        x.pass();
        Check.due("one is to come", 1, x::day);
        Check.due("that one", 3, x::turn);
        x.pass();
        Check.due("the last one left, so nobody is", 2, x::day);
        Check.due("the first that is in", 0, x::turn);
        x.leave(0);
        Check.due("a day goes on behind one that leaves", 2, x::day);
        WeighOff y = atTheCut(300, 200, 100);
        y.leave(1);
        y.pass();
        Check.due("likewise in the order of day 4", 0, y::turn);
        y.leave(2);
        Check.due("whose entry was before", 4, y::day);
        y.pass();
        Runs.dueOrder("the only one that is in day 5", y, 6, 0);
    }

    @Says("The weigh-off is OVER behind day 6, or when nobody is IN the day that would come (a day "
            + "that nobody is IN, 4 to 6 too, makes it OVER).")
    static void termsOver() {
        WeighOff x = Runs.lastEntryOfDaySix();
        Check.due("not yet", 6, x::day);
        x.weigh(5000, 0);
        dueOver("behind day 6", x);
        dueOver("nobody had a weight at the cut", atTheCut(0, -1, 0));
        dueOver("all left on day 1", Runs.overForAllLeft());
        for (int day = 2; day <= 6; day++) {
            WeighOff y = new WeighOff(3);
            Runs.enter(y, 300, 200, 0);
            Runs.passes(y, 3 * (Math.min(day, 4) - 2) + 2 * Math.max(day - 4, 0));
            y.leave(0);
            Check.due("one is in", day, y::day);
            y.leave(1);
            if (day <= 3) {
                Check.due("the one without a weight is in", 2, y::turn);
                y.leave(2);
            }
            dueOver("nobody is in behind day " + day, y);
        }
    }

    private static void dueOver(String what, WeighOff x) {
        Check.due(what + ", day", 7, x::day);
        Check.due(what + ", turn", NONE, x::turn);
        Check.state(what + ", weigh", () -> x.weigh(5000, 0));
        Check.state(what + ", crack", () -> x.crack(0, 0));
        Check.state(what + ", pass", x::pass);
    }

    @Says("An ENTRY is a SOUND fruit, a CRACKED fruit or a PASS.")
    static void termsEntries() {
        WeighOff x = new WeighOff(4);
        x.weigh(5000, 0);
        Check.due("a sound fruit is one", 1, () -> x.look(3));
        x.crack(5000, 0);
        Check.due("a cracked fruit is one", 2, () -> x.look(3));
        x.pass();
        Check.due("a pass is one", 3, () -> x.look(3));
        Check.due("each has taken its turn", 3, x::turn);
        x.leave(3);
        x.appeal(1, 1);
        Check.due("leaving and an appeal are none", 3, () -> x.look(3));
    }

    @Says("A SOUND fruit has a WEIGHT, in whole pounds (what is left in tenths is cut off).")
    static void termsSoundFruitInWholePounds() {
        WeighOff x = new WeighOff(4);
        Check.due("456.9", 456, () -> x.weigh(4569, 0));
        Check.due("456.0", 456, () -> x.weigh(4560, 0));
        Check.due("455.9", 455, () -> x.weigh(4559, 0));
        Check.due("the weight", 456, () -> x.weight(0, 1));
        Check.due("the best", 455, () -> x.best(2));
        duePlaces("tenths do not count", x, 1, 1, 3);
    }

    @Says("A CRACKED fruit and a PASS have no WEIGHT.")
    static void termsNoWeight() {
        WeighOff x = new WeighOff(3);
        x.crack(9999, 0);
        x.pass();
        Check.due("cracked", -1, () -> x.weight(0, 1));
        Check.due("passed", -2, () -> x.weight(1, 1));
        Check.due("cracked, no best", NONE, () -> x.best(0));
        Check.due("passed, no best", NONE, () -> x.best(1));
        Check.due("no weight above 0", 0, () -> x.count(0, 2, 0));
        Check.due("no weight below 0", 0, () -> x.count(0, 0, 0));
        Check.due("none at all", 2, () -> x.count(0, 5, 999));
        duePlaces("nobody is before another", x, 1, 1, 1);
    }

    @Says("What a CRACKED fruit weighs (in whole pounds, likewise) is kept, if it was MEASURED.")
    static void termsWhatACrackedFruitWeighs() {
        WeighOff x = new WeighOff(3);
        x.crack(4569, 0);
        x.crack(0, 0);
        x.crack(100, 0);
        Runs.passes(x, 5);
        Check.due("kept, the tenths are cut off", 456, () -> x.appeal(0, 1));
        Check.state("not measured", () -> x.appeal(1, 1));
        Check.due("kept, the least", 10, () -> x.appeal(2, 1));
    }

    @Says("A SOUND fruit and a CRACKED fruit have a TILT of the scales, in tenths of a degree, if "
            + "the LEVEL is on (at first it is); a PASS has none.")
    static void termsTilt() {
        WeighOff x = new WeighOff(3);
        x.weigh(5000, 13);
        x.crack(0, -13);
        x.pass();
        Check.due("sound, on at first", 13, () -> x.tilt(0, 1));
        Check.due("cracked, on at first", -13, () -> x.tilt(1, 1));
        Check.due("a pass", NONE, () -> x.tilt(2, 1));
        x.level(false);
        x.weigh(5000, 14);
        x.crack(0, -14);
        x.pass();
        Check.due("sound, off", NONE, () -> x.tilt(0, 2));
        Check.due("cracked, off", NONE, () -> x.tilt(1, 2));
        Check.due("a pass, off", NONE, () -> x.tilt(2, 2));
        x.level(true);
        x.weigh(5000, 15);
        x.crack(0, -15);
        Check.due("sound, on again", 15, () -> x.tilt(0, 3));
        Check.due("cracked, on again", -15, () -> x.tilt(1, 3));
    }

    @Says("BEST of a grower: the greatest of the WEIGHTS; none without any.")
    static void termsBest() {
        WeighOff x = new WeighOff(3);
        Runs.enter(x, 300, 0, 500, 310, -1, 400);
        Check.due("the later one", 310, () -> x.best(0));
        Check.due("none", NONE, () -> x.best(1));
        Check.due("the earlier one", 500, () -> x.best(2));
        Runs.enter(x, 305, -1, 499);
        Check.due("the one between", 310, () -> x.best(0));
        Check.due("the first of three", 500, () -> x.best(2));
    }

    @Says("One grower is BEFORE another: the WEIGHTS of both stand in order, the greatest first, "
            + "and at the first place at which they are unlike the one's is greater, or the one "
            + "has one there and the other has none.")
    static void termsBefore() {
        WeighOff x = new WeighOff(6);
        Runs.enter(x, 500, 300, 500, 500, 0, 499);
        Runs.enter(x, 300, 500, -1, 301, -1, 499);
        Runs.enter(x, 100, -1, -1, -1, -1, 499);
        Check.due("the second weight decides", 1, () -> x.place(3));
        Check.due("the third, that the other hasn't", 2, () -> x.place(0));
        Check.due("the order of the days is nothing", 3, () -> x.place(1));
        Check.due("one weight is less than two", 4, () -> x.place(2));
        Check.due("many smaller ones", 5, () -> x.place(5));
        Check.due("no weight", 6, () -> x.place(4));
        WeighOff y = new WeighOff(3);
        for (int day = 1; day <= 5; day++) {
            Runs.enter(y, 500, 500, 500);
        }
        Runs.enter(y, 400, 401, -1);
        duePlaces("the sixth weight decides", y, 3, 1, 2);
    }

    @Says("PLACE: 1 and how many growers (those that LEFT, too) are BEFORE that one.")
    static void termsPlace() {
        WeighOff x = new WeighOff(5);
        duePlaces("nobody is before another", x, 1, 1, 1, 1, 1);
        Runs.enter(x, 500, 300, -1, 300, 0, 300, 500, -1, 400, 0);
        duePlaces("alike share a place", x, 1, 1, 4, 3, 4);
        x.leave(0);
        x.leave(2);
        duePlaces("those that left are before others, too", x, 1, 1, 4, 3, 4);
    }

    @Says("THE RECORD is a number of pounds, or none (at first).")
    static void termsRecordAtFirst() {
        WeighOff x = new WeighOff(3);
        Check.due("none at first", NONE, () -> x.look(0));
        x.record(700);
        Check.due("pounds", 700, () -> x.look(0));
        x.record(0);
        Check.due("none", NONE, () -> x.look(0));
    }

    @Says("A SOUND fruit with a TILT that is 20 or less, whose WEIGHT is above THE RECORD, or when "
            + "there is none, is one: THE RECORD is its WEIGHT then, at once.")
    static void termsRecord() {
        WeighOff x = new WeighOff(12);
        dueRecord("the least, when there is none", x, 100, 0, 10, 1);
        dueRecord("alike, but for the tenths", x, 109, 0, 10, 1);
        dueRecord("tilt 21, when there is none", new WeighOff(3), 9999, 21, NONE, 0);
        dueRecord("above, tilt 21", x, 5000, 21, 10, 1);
        dueRecord("above, tilt 20", x, 5000, 20, 500, 2);
        dueRecord("one more, tilt -99", x, 5010, -99, 501, 3);
        dueRecord("one less", x, 5000, 0, 501, 3);
        x.record(600);
        dueRecord("above the last, not above the one that was set", x, 6000, 0, 600, 3);
        dueRecord("above the one that was set", x, 6010, 0, 601, 4);
        x.level(false);
        dueRecord("without a tilt", x, 9999, 0, 601, 4);
        x.level(true);
        x.record(0);
        dueRecord("any one, when there is none any more", x, 200, 0, 20, 5);
        Check.due("a record is no other thing than an entry", 10, () -> x.look(3));
    }

    private static void dueRecord(
            String what, WeighOff x, int tenthPounds, int tenths, int record, int records) {
        x.weigh(tenthPounds, tenths);
        Check.due(what + ", the record", record, () -> x.look(0));
        Check.due(what + ", how many", records, () -> x.look(2));
    }

    @Says("So is a CRACKED fruit that an appeal makes a SOUND fruit, as it comes to be one.")
    static void termsRecordByAnAppeal() {
        WeighOff x = new WeighOff(6);
        x.crack(8000, 21);
        x.level(false);
        x.crack(8010, 0);
        x.level(true);
        x.crack(8020, -99);
        x.crack(8010, 0);
        x.crack(8030, 20);
        Check.due("no cracked fruit is one", 0, () -> x.look(2));
        dueAppealed("too much tilt", x, 0, NONE, 0);
        dueAppealed("no tilt", x, 1, NONE, 0);
        x.record(802);
        dueAppealed("alike", x, 2, 802, 0);
        dueAppealed("less", x, 3, 802, 0);
        dueAppealed("above, as it comes to be one", x, 4, 803, 1);
    }

    private static void dueAppealed(String what, WeighOff x, int who, int record, int records) {
        x.appeal(who, 1);
        Check.due(what + ", the record", record, () -> x.look(0));
        Check.due(what + ", how many", records, () -> x.look(2));
    }

    @Says("THE PRIZE is a number of pounds, or none (at first).")
    static void termsPrizeAtFirst() {
        WeighOff x = new WeighOff(3);
        Check.due("none at first", NONE, () -> x.look(1));
        x.prize(700);
        Check.due("pounds", 700, () -> x.look(1));
        x.weigh(9000, 0);
        Check.due("a fruit doesn't change it", 700, () -> x.look(1));
        x.prize(0);
        Check.due("none", NONE, () -> x.look(1));
    }

    @Says("A grower WINS whose BEST is that or more; nobody does while there is no PRIZE.")
    static void termsWins() {
        WeighOff x = new WeighOff(4);
        Runs.enter(x, 500, 499, 0, 501, 100);
        Check.holds("no prize at first", false, x.wins(0));
        x.prize(500);
        Check.holds("that, by the best of two", true, x.wins(0));
        Check.holds("less", false, x.wins(1));
        Check.holds("no best", false, x.wins(2));
        Check.holds("more", true, x.wins(3));
        x.prize(0);
        Check.holds("no prize any more", false, x.wins(0));
        Check.holds("nor for the greatest", false, x.wins(3));
    }

    @Says({"HOW TWO STAND: a SIGN is 0 below, 1 at most, 2 above, 3 at least, 4 alike, 5 unlike.",
        "Of two numbers that is as it says."})
    static void termsSigns() {
        WeighOff x = new WeighOff(3);
        x.weigh(5000, -7);
        dueSigns("500 to 499", x, 0, 499, false, false, true, true, false, true);
        dueSigns("500 to 500", x, 0, 500, false, true, false, true, true, false);
        dueSigns("500 to 501", x, 0, 501, true, true, false, false, false, true);
        dueSigns("-7 to -8", x, 1, -8, false, false, true, true, false, true);
        dueSigns("-7 to -7", x, 1, -7, false, true, false, true, true, false);
        dueSigns("-7 to 7", x, 1, 7, true, true, false, false, false, true);
        x.weigh(4990, -8);
        x.weigh(5000, -7);
        Check.due("499 to 500", 1 + 2 + 32, () -> x.stands(0, 1, 0));
        Check.due("500 to 500", 2 + 8 + 16, () -> x.stands(0, 0, 2));
        Check.due("-7 to -8", 4 + 8 + 32, () -> x.stands(1, 0, 1));
    }

    /** Whether the first grower's value stands so, for the signs 0 .. 5, on every board. */
    private static void dueSigns(String of, WeighOff x, int what, int number, boolean... due) {
        for (int sign = 0; sign < 6; sign++) {
            int each = sign;
            int yes = due[sign] ? 1 : 0;
            String which = of + ", sign " + sign;
            Check.due(which + ", count", yes, () -> x.count(what, each, number));
            Check.due(which + ", first", due[sign] ? 0 : NONE, () -> x.first(what, each, number));
            Check.due(which + ", lamps", yes, () -> x.lamps(what, each, number) & 1);
        }
    }

    @Says("If one of both is none (or both are), SIGN 5 holds, and no other one.")
    static void termsSignsOfNone() {
        WeighOff x = new WeighOff(3);
        x.pass();
        for (int what = 0; what <= 1; what++) {
            int each = what;
            for (int number : new int[] {0, 1, -1, -2, 500, NONE + 1, NONE - 1, NONE}) {
                dueSigns("none to " + number, x, what, number,
                        false, false, false, false, false, true);
            }
            Check.due("both are none", 32, () -> x.stands(each, 0, 1));
        }
        x.weigh(5000, 0);
        x.weigh(5000, 0);
        for (int what = 0; what <= 1; what++) {
            int each = what;
            Check.due("the one is none", 32, () -> x.stands(each, 0, 1));
            Check.due("the other is none", 32, () -> x.stands(each, 1, 0));
        }
        WeighOff y = new WeighOff(3);
        y.weigh(5000, 7);
        dueSigns("500 to none", y, 0, NONE, false, false, false, false, false, true);
        dueSigns("7 to none", y, 1, NONE, false, false, false, false, false, true);
    }

    @Says("A call that throws changes nothing.")
    static void termsWhatThrowsChangesNothing() {
        Refused.argument("open", Runs::middle, x -> x.open(2));
        Refused.argument("weigh", Runs::middle, x -> x.weigh(9999, 100));
        Refused.argument("crack", Runs::middle, x -> x.crack(9999, 100));
        Refused.argument("leave", Runs::middle, x -> x.leave(4));
        Refused.argument("appeal's grower", Runs::middle, x -> x.appeal(4, 1));
        Refused.argument("appeal's day", Runs::middle, x -> x.appeal(1, 7));
        Refused.argument("record", Runs::middle, x -> x.record(1000));
        Refused.argument("prize", Runs::middle, x -> x.prize(1000));
        Refused.state("weigh, over", Runs::over, x -> x.weigh(9999, 0));
        Refused.state("crack, over", Runs::over, x -> x.crack(9999, 0));
        Refused.state("pass, over", Runs::over, WeighOff::pass);
        Refused.state("leave twice", Runs::middle, x -> x.leave(3));
        Refused.state("appeal", Runs::middle, x -> x.appeal(0, 1));
    }

    @Says("A call that throws changes nothing.")
    static void termsWhatThrowsChangesNothingWhereItAsks() {
        Refused.argument("weight", Runs::middle, x -> x.weight(0, 7));
        Refused.argument("tilt", Runs::middle, x -> x.tilt(4, 1));
        Refused.argument("best", Runs::middle, x -> x.best(4));
        Refused.argument("place", Runs::middle, x -> x.place(4));
        Refused.argument("wins", Runs::middle, x -> x.wins(4));
        Refused.argument("count", Runs::middle, x -> x.count(2, 5, 0));
        Refused.argument("first", Runs::middle, x -> x.first(0, 6, 0));
        Refused.argument("lamps", Runs::middle, x -> x.lamps(1, -1, 0));
        Refused.argument("stands", Runs::middle, x -> x.stands(0, 0, 4));
        Refused.argument("lean", Runs::middle, x -> x.lean(0, true));
        Refused.argument("look", Runs::middle, x -> x.look(6));
    }

    @Says("IllegalArgumentException goes ahead of IllegalStateException.")
    static void termsArgumentAheadOfState() {
        Check.argument("weigh, over", () -> Runs.over().weigh(99, 0));
        Check.argument("weigh's tenths, over", () -> Runs.over().weigh(100, 100));
        Check.argument("crack, over", () -> Runs.over().crack(10, 0));
        Check.argument("crack's tenths, over", () -> Runs.over().crack(0, -100));
        Check.argument("leave, all left", () -> Runs.overForAllLeft().leave(3));
        Check.argument("appeal's grower, no entry", () -> new WeighOff(3).appeal(3, 1));
        Check.argument("appeal's day, no entry", () -> new WeighOff(3).appeal(0, 7));
    }

    @Says("The constants: `NONE = -1000000`: There is none; told as a number it is none (in "
            + "count(), first(), lamps()).")
    static void termsNone() {
        Check.due("NONE", -1000000, () -> WeighOff.NONE);
        WeighOff x = new WeighOff(3);
        Check.due("answered where there is none", WeighOff.NONE, () -> x.best(0));
        x.weigh(5000, 5);
        for (int what = 0; what <= 1; what++) {
            int each = what;
            Check.due("count, no number is above none", 0, () -> x.count(each, 2, NONE));
            Check.due("first, no number is above none", NONE, () -> x.first(each, 2, NONE));
            Check.due("lamps, no number is above none", 0, () -> x.lamps(each, 2, NONE));
            Check.due("count, it is unlike none", 1, () -> x.count(each, 5, NONE));
            Check.due("first, it is unlike none", 0, () -> x.first(each, 5, NONE));
            Check.due("lamps, all are unlike none", 7, () -> x.lamps(each, 5, NONE));
            Check.due("count, it is above another", 1, () -> x.count(each, 2, NONE + 1));
            Check.due("count, it is above less", 1, () -> x.count(each, 2, NONE - 1));
        }
    }

    @Says("Nothing is promised beyond the answers and state changes described above,")
    static void notPromisedThatAskingChangesAnything() {
        for (Refused.Made made : new Refused.Made[] {Runs::middle, Runs::over}) {
            WeighOff asked = made.object();
            Story.asked(asked);
            for (int what = 0; what <= 1; what++) {
                asked.count(what, 5, 0);
                asked.first(what, 5, 0);
                asked.lamps(what, 5, 0);
                asked.stands(what, 0, 1);
                asked.lean(1, what == 0);
            }
            String due = Story.toTheEnd(made.object());
            Check.same("promises 11 to 23", due, Story.toTheEnd(asked));
        }
    }
}
