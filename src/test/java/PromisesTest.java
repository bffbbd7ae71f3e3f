/** Each promise by hand-made runs: ordinary inputs, the edges that the document names, wrong inputs. */
public final class PromisesTest {
    private static final int NONE = -1000000;
    private static final int[] FAR = {Integer.MIN_VALUE, Integer.MAX_VALUE};

    public static void main(String[] args) {
        newObject();
        open();
        weigh();
        crack();
        pass();
        leave();
        leaveEndsADay();
        appeal();
        appealLeavesCutAndOrder();
        level();
        record();
        prize();
        turnOnTheFirstDays();
        theCut();
        theCutWithTies();
        nobodyThroughTheCut();
        orderOfTheLastDay();
        everybodyLeavesLate();
        weight();
        tilt();
        best();
        place();
        wins();
        count();
        first();
        lamps();
        stands();
        lean();
        look();
        allSixDays();
        twelveGrowers();
        argumentAheadOfState();
        throwingChangesNothing();
        Check.end();
    }

    private static void newObject() {
        for (int growers = 3; growers <= 12; growers++) {
            WeighOff x = new WeighOff(growers);
            Check.due("1: growers", growers, () -> x.look(4));
        }
        for (int growers : new int[] {2, 13, 0, -3, FAR[0], FAR[1]}) {
            WeighOff x = new WeighOff(growers);
            Check.due("1: another number means 8", 8, () -> x.look(4));
        }
        WeighOff x = new WeighOff(3);
        Check.due("1: day", 1, x::day);
        Check.due("1: turn", 0, x::turn);
        Check.due("1: no record", NONE, () -> x.look(0));
        Check.due("1: no prize", NONE, () -> x.look(1));
        Check.due("1: no records", 0, () -> x.look(2));
        Check.due("1: no entries", 0, () -> x.look(3));
        Check.due("1: nobody left", 0, () -> x.look(5));
        Check.due("1: no weight", NONE, () -> x.weight(2, 6));
        Check.due("1: no tilt", NONE, () -> x.tilt(0, 1));
        Check.due("1: all share place 1", 1, () -> x.place(2));
        Check.holds("1: the level is on", false, x.level(true));
    }

    private static void open() {
        WeighOff x = new WeighOff(5);
        x.prize(300);
        Runs.enter(x, 500, 400, 0, -1);
        x.leave(4);
        x.leave(0);
        x.level(false);
        x.open(12);
        Check.due("2: growers", 12, () -> x.look(4));
        Check.due("2: day", 1, x::day);
        Check.due("2: turn", 0, x::turn);
        Check.due("2: no entries", 0, () -> x.look(3));
        Check.due("2: nobody left", 0, () -> x.look(5));
        Check.due("2: no weight", NONE, () -> x.weight(0, 1));
        Check.due("2: no tilt", NONE, () -> x.tilt(0, 1));
        Check.due("2: no best", NONE, () -> x.best(0));
        Check.due("2: no place but 1", 1, () -> x.place(1));
        Check.due("2: the record stays", 500, () -> x.look(0));
        Check.due("2: the prize stays", 300, () -> x.look(1));
        Check.due("2: the records are of all weigh-offs", 1, () -> x.look(2));
        Check.holds("2: the level stays off", false, x.level(false));
        Runs.dueOrder("2: all are in again", x, 2, 0, 1, 2, 3, 4, 5, 6, 7, 8, 9, 10, 11);
        x.open(3);
        Check.argument("2: grower 3 is gone", () -> x.best(3));
        Runs.dueOrder("2: fewer", x, 2, 0, 1, 2);
        for (int growers : new int[] {2, 13, 0, -1, FAR[0], FAR[1]}) {
            Check.argument("2: open(" + growers + ")", () -> x.open(growers));
        }
        Check.due("2: what throws changes nothing", 2, x::day);
        openForgetsTheCut();
    }

    private static void openForgetsTheCut() {
        WeighOff x = new WeighOff(3);
        Runs.enter(x, 300, 200, 100);
        Runs.passes(x, 6);
        Check.due("2: the cut is made", 4, x::day);
        x.open(4);
        Runs.passes(x, 12);
        Check.due("2: nobody of the new one has a weight", 7, x::day);
        x.open(3);
        Check.due("2: from over to day 1", 1, x::day);
        Check.due("2: from over to turn 0", 0, x::turn);
        x.crack(5000, 0);
        x.open(3);
        x.crack(0, 0);
        Check.state("2: what was measured is gone", () -> x.appeal(0, 1));
    }

    private static void weigh() {
        WeighOff x = new WeighOff(3);
        Check.due("3: least", 10, () -> x.weigh(100, -99));
        Check.due("3: greatest", 999, () -> x.weigh(9999, 99));
        Check.due("3: tenths are cut off", 456, () -> x.weigh(4569, 0));
        Check.due("3: the next day", 2, x::day);
        Check.due("3: its tilt", -99, () -> x.tilt(0, 1));
        Check.due("3: its weight", 10, () -> x.weight(0, 1));
        for (int tenthPounds : new int[] {99, 10000, 0, -100, FAR[0], FAR[1]}) {
            Check.argument("3: weigh(" + tenthPounds + ", 0)", () -> x.weigh(tenthPounds, 0));
        }
        for (int tenths : new int[] {-100, 100, NONE, FAR[0], FAR[1]}) {
            Check.argument("3: weigh(100, " + tenths + ")", () -> x.weigh(100, tenths));
        }
        x.level(false);
        Check.argument("3: as told, while the level is off", () -> x.weigh(100, 100));
        Check.due("3: the turn stays", 0, x::turn);
        Check.due("3: with the level off", 50, () -> x.weigh(500, 99));
        Check.due("3: then no tilt", NONE, () -> x.tilt(0, 2));
        Check.state("3: over", () -> Runs.over().weigh(100, 0));
    }

    private static void crack() {
        WeighOff x = new WeighOff(3);
        x.crack(0, 7);
        x.crack(100, -99);
        x.crack(9999, 99);
        Check.due("4: cracked", -1, () -> x.weight(0, 1));
        Check.due("4: its tilt", 7, () -> x.tilt(0, 1));
        Check.due("4: no best", NONE, () -> x.best(2));
        Check.due("4: no record", NONE, () -> x.look(0));
        Check.due("4: three entries", 3, () -> x.look(3));
        Check.due("4: the next day", 2, x::day);
        Check.due("4: measured at least", 10, () -> x.appeal(1, 1));
        Check.due("4: measured at most", 999, () -> x.appeal(2, 1));
        for (int tenthPounds : new int[] {99, 10000, 1, -1, -100, FAR[0], FAR[1]}) {
            Check.argument("4: crack(" + tenthPounds + ", 0)", () -> x.crack(tenthPounds, 0));
        }
        for (int tenths : new int[] {-100, 100, NONE, FAR[0], FAR[1]}) {
            Check.argument("4: crack(0, " + tenths + ")", () -> x.crack(0, tenths));
        }
        x.level(false);
        Check.argument("4: as told, while the level is off", () -> x.crack(0, -100));
        x.crack(0, 5);
        Check.due("4: no tilt while the level is off", NONE, () -> x.tilt(0, 2));
        Check.state("4: over", () -> Runs.over().crack(0, 0));
    }

    private static void pass() {
        WeighOff x = new WeighOff(3);
        x.pass();
        Check.due("5: a pass", -2, () -> x.weight(0, 1));
        Check.due("5: no tilt", NONE, () -> x.tilt(0, 1));
        Check.due("5: an entry", 1, () -> x.look(3));
        Check.due("5: the next one", 1, x::turn);
        Check.state("5: no appeal", () -> x.appeal(0, 1));
        Check.state("5: over", () -> Runs.over().pass());
    }

    private static void leave() {
        WeighOff x = new WeighOff(5);
        x.leave(2);
        Check.due("6: another one's leaving, turn", 0, x::turn);
        x.leave(0);
        Check.due("6: the next one has the turn", 1, x::turn);
        x.pass();
        Check.due("6: who left has none", 3, x::turn);
        x.leave(1);
        Check.due("6: behind one's entry", 3, x::turn);
        Check.due("6: how many", 3, () -> x.look(5));
        Check.due("6: leaving is no entry", 1, () -> x.look(3));
        Check.state("6: twice", () -> x.leave(2));
        for (int who : new int[] {-1, 5, 12, FAR[0], FAR[1]}) {
            Check.argument("6: leave(" + who + ")", () -> x.leave(who));
        }
        Check.due("6: what throws changes nothing", 3, () -> x.look(5));
        Runs.dueOrder("6: the rest of the day", x, 2, 3, 4);
        Runs.dueOrder("6: the next day", x, 3, 3, 4);
        WeighOff done = Runs.over();
        done.leave(1);
        Check.due("6: when it is over", 1, () -> done.look(5));
        Check.state("6: twice when it is over", () -> done.leave(1));
    }

    private static void leaveEndsADay() {
        WeighOff x = new WeighOff(4);
        Runs.passes(x, 2);
        x.leave(3);
        Check.due("6: still this day", 1, x::day);
        x.leave(2);
        Check.due("6: nobody behind, so the next day", 2, x::day);
        Check.due("6: its first one", 0, x::turn);
        x.leave(0);
        x.leave(1);
        Check.due("6: nobody is in", 7, x::day);
        Check.due("6: nobody has the turn", NONE, x::turn);
        WeighOff y = new WeighOff(3);
        Runs.enter(y, 300, 200, 100, -1, -1, -1, -1, -1);
        y.leave(2);
        Check.due("6: leaving makes the cut", 4, y::day);
        Runs.dueOrder("6: without the one that left", y, 5, 1, 0);
        y.leave(1);
        y.leave(0);
        Check.due("6: all left on day 5", 7, y::day);
    }

    private static void appeal() {
        WeighOff x = new WeighOff(3);
        x.crack(4567, 20);
        x.crack(4569, 5);
        x.crack(0, 0);
        Check.due("7: its weight", 456, () -> x.appeal(0, 1));
        Check.due("7: told", 456, () -> x.weight(0, 1));
        Check.due("7: its tilt stays", 20, () -> x.tilt(0, 1));
        Check.due("7: it is a record", 456, () -> x.look(0));
        Check.due("7: the best", 456, () -> x.best(0));
        Check.due("7: the place", 1, () -> x.place(0));
        Check.due("7: no more entries", 3, () -> x.look(3));
        Check.due("7: the turn stays", 0, x::turn);
        Check.due("7: alike", 456, () -> x.appeal(1, 1));
        Check.due("7: which is no record", 1, () -> x.look(2));
        Check.state("7: twice", () -> x.appeal(0, 1));
        Check.state("7: not measured", () -> x.appeal(2, 1));
        Check.state("7: no entry", () -> x.appeal(0, 2));
        Runs.enter(x, 300, -1);
        Check.state("7: a sound fruit", () -> x.appeal(0, 2));
        Check.state("7: a pass", () -> x.appeal(1, 2));
        for (int who : new int[] {-1, 3, FAR[0], FAR[1]}) {
            Check.argument("7: appeal(" + who + ", 1)", () -> x.appeal(who, 1));
        }
        for (int day : new int[] {0, 7, -1, FAR[0], FAR[1]}) {
            Check.argument("7: appeal(0, " + day + ")", () -> x.appeal(0, day));
        }
        appealAndRecord();
    }

    private static void appealAndRecord() {
        WeighOff x = new WeighOff(3);
        x.crack(8000, 21);
        x.level(false);
        x.crack(8010, 0);
        x.level(true);
        x.crack(8020, -99);
        x.level(false);
        x.appeal(0, 1);
        Check.due("7: too much tilt for a record", NONE, () -> x.look(0));
        x.appeal(1, 1);
        Check.due("7: no tilt, no record", NONE, () -> x.look(0));
        x.leave(2);
        Check.due("7: of one that left", 802, () -> x.appeal(2, 1));
        Check.due("7: a record by the tilt that it had", 802, () -> x.look(0));
        Check.due("7: one record", 1, () -> x.look(2));
        WeighOff y = new WeighOff(3);
        y.crack(3000, 0);
        Runs.passes(y, 8);
        Check.due("7: over, for nobody has a weight", 7, y::day);
        Check.due("7: when it is over", 300, () -> y.appeal(0, 1));
        Check.due("7: it stays over", 7, y::day);
        Check.due("7: so does the turn", NONE, y::turn);
    }

    private static void appealLeavesCutAndOrder() {
        WeighOff x = new WeighOff(4);
        x.crack(9000, 0);
        Runs.enter(x, 300, 200);
        x.crack(8000, 0);
        Runs.enter(x, 150, -1, -1, -1, -1, -1, -1, -1);
        Check.due("7: day 4", 4, x::day);
        x.appeal(3, 1);
        x.appeal(0, 1);
        Check.due("7: place 1 now", 1, () -> x.place(0));
        Check.due("7: place 2 now", 2, () -> x.place(3));
        Runs.dueOrder("7: the order of day 4 stays", x, 5, 0, 2, 1);
        Runs.dueOrder("7: that of day 5 too, and 3 isn't in", x, 6, 0, 2, 1);
        Runs.dueOrder("7: that of day 6 is by the new places", x, 7, 2, 1, 0);
    }

    private static void level() {
        WeighOff x = new WeighOff(3);
        Check.holds("8: on at first", false, x.level(true));
        Check.holds("8: off", true, x.level(false));
        Check.holds("8: off again", false, x.level(false));
        x.weigh(5000, 3);
        Check.holds("8: on", true, x.level(true));
        x.weigh(4000, 4);
        x.level(false);
        Check.due("8: no tilt while it was off", NONE, () -> x.tilt(0, 1));
        Check.due("8: a tilt that was taken stays", 4, () -> x.tilt(1, 1));
    }

    private static void record() {
        WeighOff x = new WeighOff(12);
        x.record(999);
        Check.due("9: set", 999, () -> x.look(0));
        x.record(1);
        Check.due("9: least", 1, () -> x.look(0));
        Check.due("9: setting is no record", 0, () -> x.look(2));
        x.record(500);
        x.weigh(5009, 0);
        Check.due("9: alike is none", 0, () -> x.look(2));
        x.weigh(5010, 21);
        Check.due("9: tilt 21 is none", 500, () -> x.look(0));
        x.weigh(5010, 20);
        Check.due("9: above, tilt 20", 501, () -> x.look(0));
        x.weigh(5020, -99);
        Check.due("9: tilt -99", 502, () -> x.look(0));
        x.level(false);
        x.weigh(9000, 0);
        Check.due("9: no tilt, no record", 502, () -> x.look(0));
        x.level(true);
        x.record(0);
        Check.due("9: none", NONE, () -> x.look(0));
        x.weigh(100, 0);
        Check.due("9: any one, when there is none", 10, () -> x.look(0));
        Check.due("9: how many", 3, () -> x.look(2));
        for (int pounds : new int[] {-1, 1000, NONE, FAR[0], FAR[1]}) {
            Check.argument("9: record(" + pounds + ")", () -> x.record(pounds));
        }
        Check.due("9: what throws changes nothing", 10, () -> x.look(0));
    }

    private static void prize() {
        WeighOff x = new WeighOff(3);
        x.prize(999);
        Check.due("10: most", 999, () -> x.look(1));
        x.prize(1);
        Check.due("10: least", 1, () -> x.look(1));
        for (int pounds : new int[] {-1, 1000, NONE, FAR[0], FAR[1]}) {
            Check.argument("10: prize(" + pounds + ")", () -> x.prize(pounds));
        }
        Check.due("10: what throws changes nothing", 1, () -> x.look(1));
        x.prize(0);
        Check.due("10: none", NONE, () -> x.look(1));
    }

    private static void turnOnTheFirstDays() {
        WeighOff x = new WeighOff(3);
        Check.due("11: turn 0", 0, x::turn);
        Runs.enter(x, 100);
        Check.due("11: turn 1", 1, x::turn);
        Runs.enter(x, 0);
        Check.due("11: turn 2", 2, x::turn);
        Runs.enter(x, 900);
        Check.due("12: day 2", 2, x::day);
        Runs.dueOrder("11: by the numbers", x, 3, 0, 1, 2);
        Runs.dueOrder("11: by the numbers still", x, 4, 0, 1, 2);
        Runs.dueOrder("11: one without a weight isn't in", x, 5, 0, 2);
        Runs.dueOrder("11: day 5", x, 6, 0, 2);
        Runs.dueOrder("11: day 6", x, 7, 0, 2);
        Check.due("11: over", NONE, x::turn);
        Check.state("11: and nothing more", x::pass);
    }

    private static void theCut() {
        WeighOff x = new WeighOff(12);
        Runs.enter(x, 100, 200, 300, 400, 500, 600, 700, 800, 900, 950, 960, 970);
        x.leave(11);
        x.leave(5);
        Runs.passes(x, 20);
        Check.due("the cut: of one that left, the place", 1, () -> x.place(11));
        Check.due("the cut: place 8", 8, () -> x.place(4));
        Check.due("the cut: place 9", 9, () -> x.place(3));
        Runs.dueOrder("the cut: the greatest place first", x, 5, 4, 6, 7, 8, 9, 10);
        x.leave(8);
        Runs.dueOrder("the cut: day 5 without another", x, 6, 4, 6, 7, 9, 10);
    }

    private static void theCutWithTies() {
        WeighOff x = new WeighOff(12);
        Runs.enter(x, 900, 500, 500, 500, 500, 500, 500, 500, 500, 500, 800, 0);
        Runs.passes(x, 24);
        Check.due("the cut: nine share a place", 3, () -> x.place(9));
        Runs.dueOrder("the cut: all of them, the greatest number first",
                x, 5, 9, 8, 7, 6, 5, 4, 3, 2, 1, 10, 0);
        WeighOff y = new WeighOff(12);
        Runs.enter(y, 900, 900, 900, 900, 900, 900, 900, 800, 800, 700, 700, 0);
        Runs.passes(y, 24);
        Runs.dueOrder("the cut: two share place 8", y, 5, 8, 7, 6, 5, 4, 3, 2, 1, 0);
    }

    private static void nobodyThroughTheCut() {
        WeighOff x = new WeighOff(3);
        Runs.passes(x, 8);
        Check.due("12: the last of day 3", 3, x::day);
        x.crack(5000, 0);
        Check.due("12: nobody had a weight", 7, x::day);
        Check.due("11: so it is over", NONE, x::turn);
        WeighOff y = new WeighOff(3);
        Runs.enter(y, 300, -1, -1, -1, -1, -1, -1, -1);
        y.leave(0);
        Check.due("12: still day 3", 3, y::day);
        y.pass();
        Check.due("12: the only one with a weight left", 7, y::day);
    }

    private static void orderOfTheLastDay() {
        WeighOff x = new WeighOff(4);
        Runs.enter(x, 400, 300, 200, 100);
        Runs.passes(x, 8);
        Check.due("11: the last one first", 3, x::turn);
        Runs.enter(x, 900, 300, -1, -1);
        Check.due("12: day 5", 5, x::day);
        Runs.dueOrder("11: by the places at the cut still", x, 6, 3, 2, 1, 0);
        Runs.dueOrder("11: by those behind day 5", x, 7, 1, 2, 0, 3);
        WeighOff y = new WeighOff(4);
        Runs.enter(y, 400, 300, 200, 100);
        Runs.passes(y, 8);
        Runs.enter(y, -1, 300, 200, -1, -1, -1, -1);
        Check.due("12: the last entry of day 5", 5, y::day);
        Check.due("11: by the least number", 0, y::turn);
        Runs.enter(y, 100);
        Runs.dueOrder("11: equal ones by the greatest number", y, 7, 3, 2, 1, 0);
    }

    private static void everybodyLeavesLate() {
        WeighOff x = new WeighOff(3);
        Runs.enter(x, 300, 200, 100);
        Runs.passes(x, 6);
        x.pass();
        x.leave(2);
        x.leave(0);
        Check.due("12: one to come still", 4, x::day);
        x.leave(1);
        Check.due("12: nobody is in day 5", 7, x::day);
        WeighOff y = new WeighOff(3);
        Runs.enter(y, 300, 200, 100);
        Runs.passes(y, 9);
        y.leave(1);
        y.pass();
        Check.due("11: one that left is passed over", 0, y::turn);
        y.pass();
        Check.due("12: day 6", 6, y::day);
        y.leave(2);
        Check.due("11: likewise on day 6", 0, y::turn);
        y.leave(0);
        Check.due("12: over", 7, y::day);
    }

    private static void weight() {
        WeighOff x = new WeighOff(3);
        Runs.enter(x, 300, 0, -1, -1);
        Check.due("13: sound", 300, () -> x.weight(0, 1));
        Check.due("13: cracked", -1, () -> x.weight(1, 1));
        Check.due("13: pass", -2, () -> x.weight(2, 1));
        Check.due("13: the next day's", -2, () -> x.weight(0, 2));
        Check.due("13: none yet", NONE, () -> x.weight(1, 2));
        Check.due("13: none on day 6", NONE, () -> x.weight(2, 6));
        for (int who : new int[] {-1, 3, FAR[0], FAR[1]}) {
            Check.argument("13: weight(" + who + ", 1)", () -> x.weight(who, 1));
        }
        for (int day : new int[] {0, 7, FAR[0], FAR[1]}) {
            Check.argument("13: weight(0, " + day + ")", () -> x.weight(0, day));
        }
    }

    private static void tilt() {
        WeighOff x = new WeighOff(3);
        x.weigh(5000, 99);
        x.crack(0, -99);
        x.pass();
        x.level(false);
        x.weigh(5000, 1);
        Check.due("14: sound", 99, () -> x.tilt(0, 1));
        Check.due("14: cracked", -99, () -> x.tilt(1, 1));
        Check.due("14: pass", NONE, () -> x.tilt(2, 1));
        Check.due("14: level off", NONE, () -> x.tilt(0, 2));
        Check.due("14: no entry", NONE, () -> x.tilt(1, 2));
        for (int who : new int[] {-1, 3, FAR[0], FAR[1]}) {
            Check.argument("14: tilt(" + who + ", 1)", () -> x.tilt(who, 1));
        }
        for (int day : new int[] {0, 7, FAR[0], FAR[1]}) {
            Check.argument("14: tilt(0, " + day + ")", () -> x.tilt(0, day));
        }
    }

    private static void best() {
        WeighOff x = new WeighOff(3);
        Runs.enter(x, 300, 0, 500, 310, -1, 400);
        Check.due("15: the later one", 310, () -> x.best(0));
        Check.due("15: none", NONE, () -> x.best(1));
        Check.due("15: the earlier one", 500, () -> x.best(2));
        x.leave(2);
        Check.due("15: of one that left", 500, () -> x.best(2));
        for (int who : new int[] {-1, 3, FAR[0], FAR[1]}) {
            Check.argument("15: best(" + who + ")", () -> x.best(who));
        }
    }

    private static void place() {
        WeighOff x = new WeighOff(6);
        Runs.enter(x, 500, 300, 500, 500, 0, 499);
        Runs.enter(x, 300, 500, -1, 301, -1, 499);
        Runs.enter(x, 100, -1, -1, -1, -1, 499);
        Check.due("16: the second weight decides", 1, () -> x.place(3));
        Check.due("16: the third, that the other hasn't", 2, () -> x.place(0));
        Check.due("16: the order of the days is nothing", 3, () -> x.place(1));
        Check.due("16: one weight is less than two", 4, () -> x.place(2));
        Check.due("16: many smaller ones", 5, () -> x.place(5));
        Check.due("16: no weight", 6, () -> x.place(4));
        x.leave(3);
        Check.due("16: one that left keeps the place", 1, () -> x.place(3));
        Check.due("16: and is before others", 2, () -> x.place(0));
        for (int who : new int[] {-1, 6, FAR[0], FAR[1]}) {
            Check.argument("16: place(" + who + ")", () -> x.place(who));
        }
        WeighOff y = new WeighOff(5);
        Runs.enter(y, 500, 300, -1, 300, 0, 300, 500, -1, 400, 0);
        Check.due("16: alike share it", 1, () -> y.place(0));
        Check.due("16: alike share it, too", 1, () -> y.place(1));
        Check.due("16: behind both", 3, () -> y.place(3));
        Check.due("16: without any", 4, () -> y.place(2));
        Check.due("16: without any, too", 4, () -> y.place(4));
    }

    private static void wins() {
        WeighOff x = new WeighOff(3);
        Runs.enter(x, 500, 499, 0);
        Check.holds("17: no prize", false, x.wins(0));
        x.prize(500);
        Check.holds("17: as much", true, x.wins(0));
        Check.holds("17: less", false, x.wins(1));
        x.prize(1);
        Check.holds("17: more", true, x.wins(1));
        Check.holds("17: no best", false, x.wins(2));
        x.leave(0);
        Check.holds("17: one that left", true, x.wins(0));
        x.prize(0);
        Check.holds("17: no prize any more", false, x.wins(0));
        for (int who : new int[] {-1, 3, FAR[0], FAR[1]}) {
            Check.argument("17: wins(" + who + ")", () -> x.wins(who));
        }
    }

    /** Grower 0 has 500 tilt 5 then 300 tilt -7; 1 a crack tilt 9 then a pass; 2 a pass; 3 left. */
    private static WeighOff board() {
        WeighOff x = new WeighOff(4);
        x.weigh(5000, 5);
        x.crack(5000, 9);
        x.pass();
        x.leave(3);
        x.weigh(3000, -7);
        x.pass();
        return x;
    }

    /** What is due for the signs 0 .. 5. */
    private interface Asked {
        int of(int sign);
    }

    private static void signs(String what, Asked asked, int... due) {
        for (int sign = 0; sign < 6; sign++) {
            int each = sign;
            Check.due(what + ", sign " + sign, due[sign], () -> asked.of(each));
        }
    }

    private static void count() {
        WeighOff x = board();
        signs("18: weights to 500", s -> x.count(0, s, 500), 1, 2, 0, 1, 1, 4);
        signs("18: weights to 300", s -> x.count(0, s, 300), 0, 1, 1, 2, 1, 4);
        signs("18: weights to 0", s -> x.count(0, s, 0), 0, 0, 2, 2, 0, 5);
        signs("18: weights to -1", s -> x.count(0, s, -1), 0, 0, 2, 2, 0, 5);
        signs("18: weights to none", s -> x.count(0, s, NONE), 0, 0, 0, 0, 0, 5);
        signs("18: tilts to 5", s -> x.count(1, s, 5), 1, 2, 1, 2, 1, 4);
        signs("18: tilts to -7", s -> x.count(1, s, -7), 0, 1, 2, 3, 1, 4);
        signs("18: tilts to none", s -> x.count(1, s, NONE), 0, 0, 0, 0, 0, 5);
        signs("18: tilts to the least", s -> x.count(1, s, FAR[0]), 0, 0, 3, 3, 0, 5);
        signs("18: weights to the greatest", s -> x.count(0, s, FAR[1]), 2, 2, 0, 0, 0, 5);
        signs("18: no entries", s -> new WeighOff(3).count(0, s, NONE), 0, 0, 0, 0, 0, 0);
        x.appeal(1, 1);
        Check.due("18: an appeal counts", 2, () -> x.count(0, 4, 500));
        wrongBoard("18", x::count);
    }

    private static void first() {
        WeighOff x = board();
        signs("19: weights to 300", s -> x.first(0, s, 300), NONE, 0, NONE, 0, 0, 1);
        signs("19: weights to 500", s -> x.first(0, s, 500), 0, 0, NONE, NONE, NONE, 0);
        signs("19: weights to none", s -> x.first(0, s, NONE), NONE, NONE, NONE, NONE, NONE, 0);
        signs("19: tilts to -7", s -> x.first(1, s, -7), NONE, 0, NONE, 0, 0, 1);
        signs("19: tilts to 5", s -> x.first(1, s, 5), 0, 0, NONE, NONE, NONE, 0);
        signs("19: no entries", s -> new WeighOff(3).first(0, s, NONE),
                NONE, NONE, NONE, NONE, NONE, NONE);
        WeighOff y = new WeighOff(3);
        y.leave(0);
        y.weigh(3000, 1);
        Check.due("19: one without an entry is none of them", 1, () -> y.first(0, 5, NONE));
        Check.due("19: nor by the tilt", 1, () -> y.first(1, 5, 50));
        y.weigh(3000, 1);
        Check.due("19: the least number", 1, () -> y.first(0, 4, 300));
        wrongBoard("19", x::first);
    }

    private static void lamps() {
        WeighOff x = board();
        signs("20: bests to 500", s -> x.lamps(0, s, 500), 0, 1, 0, 1, 1, 14);
        signs("20: bests to 499", s -> x.lamps(0, s, 499), 0, 0, 1, 1, 0, 15);
        signs("20: bests to none", s -> x.lamps(0, s, NONE), 0, 0, 0, 0, 0, 15);
        signs("20: tilts to -7", s -> x.lamps(1, s, -7), 0, 1, 0, 1, 1, 14);
        signs("20: tilts to -6", s -> x.lamps(1, s, -6), 1, 1, 0, 0, 0, 15);
        signs("20: no entries", s -> new WeighOff(12).lamps(1, s, 0), 0, 0, 0, 0, 0, 4095);
        WeighOff y = new WeighOff(12);
        Runs.enter(y, 100, 200, 300, 400, 500, 600, 700, 800, 900, 100, 200, 300);
        Check.due("20: many", 8 + 16 + 32 + 64 + 128 + 256, () -> y.lamps(0, 2, 300));
        y.leave(8);
        Check.due("20: one that left, too", 256, () -> y.lamps(0, 4, 900));
        wrongBoard("20", x::lamps);
    }

    private interface BoardCall {
        int of(int what, int sign, int number);
    }

    private static void wrongBoard(String promise, BoardCall call) {
        for (int what : new int[] {-1, 2, FAR[0], FAR[1]}) {
            Check.argument(promise + ": what " + what, () -> call.of(what, 0, 0));
        }
        for (int sign : new int[] {-1, 6, FAR[0], FAR[1]}) {
            Check.argument(promise + ": sign " + sign, () -> call.of(0, sign, 0));
            Check.argument(promise + ": sign " + sign + " to none", () -> call.of(1, sign, NONE));
        }
    }

    private static void stands() {
        WeighOff x = new WeighOff(5);
        x.weigh(5000, 9);
        x.weigh(4000, 8);
        x.weigh(5000, 7);
        x.pass();
        x.leave(4);
        x.weigh(1000, 8);
        Check.due("21: above", 4 + 8 + 32, () -> x.stands(0, 0, 1));
        Check.due("21: below", 1 + 2 + 32, () -> x.stands(0, 1, 2));
        Check.due("21: alike", 2 + 8 + 16, () -> x.stands(0, 0, 2));
        Check.due("21: to oneself", 2 + 8 + 16, () -> x.stands(0, 1, 1));
        Check.due("21: one has none", 32, () -> x.stands(0, 0, 3));
        Check.due("21: the other has none", 32, () -> x.stands(0, 4, 0));
        Check.due("21: both have none", 32, () -> x.stands(0, 3, 3));
        Check.due("21: the latest tilts are alike", 2 + 8 + 16, () -> x.stands(1, 0, 1));
        Check.due("21: tilt above", 4 + 8 + 32, () -> x.stands(1, 0, 2));
        Check.due("21: tilt below", 1 + 2 + 32, () -> x.stands(1, 2, 1));
        Check.due("21: no entry", 32, () -> x.stands(1, 4, 4));
        Check.due("21: a pass", 32, () -> x.stands(1, 3, 0));
        for (int what : new int[] {-1, 2, FAR[0], FAR[1]}) {
            Check.argument("21: what " + what, () -> x.stands(what, 0, 0));
        }
        for (int who : new int[] {-1, 5, FAR[0], FAR[1]}) {
            Check.argument("21: one " + who, () -> x.stands(0, who, 0));
            Check.argument("21: other " + who, () -> x.stands(1, 0, who));
        }
    }

    private static void lean() {
        WeighOff x = new WeighOff(4);
        x.weigh(5000, -3);
        x.crack(0, -9);
        x.pass();
        x.weigh(5000, -2);
        x.pass();
        x.level(false);
        x.weigh(5000, 50);
        Check.due("22: greatest", -2, () -> x.lean(1, false));
        Check.due("22: least", -9, () -> x.lean(1, true));
        Check.due("22: none has one, greatest", NONE, () -> x.lean(2, false));
        Check.due("22: none has one, least", NONE, () -> x.lean(2, true));
        Check.due("22: no entries", NONE, () -> x.lean(6, true));
        x.level(true);
        x.crack(0, 4);
        Check.due("22: only one, greatest", 4, () -> x.lean(2, false));
        Check.due("22: only one, least", 4, () -> x.lean(2, true));
        for (int day : new int[] {0, 7, -1, FAR[0], FAR[1]}) {
            Check.argument("22: lean(" + day + ")", () -> x.lean(day, true));
        }
    }

    private static void look() {
        WeighOff x = board();
        Check.due("23: the record", 500, () -> x.look(0));
        Check.due("23: no prize", NONE, () -> x.look(1));
        Check.due("23: records", 1, () -> x.look(2));
        Check.due("23: entries", 5, () -> x.look(3));
        Check.due("23: growers", 4, () -> x.look(4));
        Check.due("23: left", 1, () -> x.look(5));
        x.prize(7);
        x.open(3);
        x.weigh(6000, 0);
        Check.due("23: the prize", 7, () -> x.look(1));
        Check.due("23: records of all weigh-offs", 2, () -> x.look(2));
        Check.due("23: entries of this one", 1, () -> x.look(3));
        Check.due("23: left of this one", 0, () -> x.look(5));
        for (int what : new int[] {-1, 6, FAR[0], FAR[1]}) {
            Check.argument("23: look(" + what + ")", () -> x.look(what));
        }
    }

    private static void allSixDays() {
        WeighOff x = new WeighOff(3);
        for (int day = 1; day <= 5; day++) {
            Runs.enter(x, 500, 500, 500);
        }
        Check.due("16: all alike", 1, () -> x.place(0));
        Check.due("12: day 6", 6, x::day);
        Check.due("11: the greatest number first", 2, x::turn);
        x.weigh(4000, 3);
        x.weigh(4010, -4);
        x.pass();
        Check.due("16: the sixth weight is less", 2, () -> x.place(2));
        Check.due("16: the sixth weight decides", 1, () -> x.place(1));
        Check.due("16: five are less than six", 3, () -> x.place(0));
        Check.due("13: on day 6", 401, () -> x.weight(1, 6));
        Check.due("14: on day 6", 3, () -> x.tilt(2, 6));
        Check.due("18: on day 6, too", 2, () -> x.count(0, 0, 500));
        Check.due("18: all entries", 18, () -> x.count(1, 5, NONE));
        Check.due("19: the latest is that of day 6", 2, () -> x.first(0, 4, 400));
        Check.due("20: likewise", 2, () -> x.lamps(1, 4, -4));
        Check.due("22: greatest of day 6", 3, () -> x.lean(6, false));
        Check.due("22: least of day 6", -4, () -> x.lean(6, true));
        Check.due("23: all entries", 18, () -> x.look(3));
    }

    private static void twelveGrowers() {
        WeighOff x = new WeighOff(12);
        Runs.passes(x, 11);
        x.weigh(3000, -5);
        Check.due("18: the last of twelve", 1, () -> x.count(0, 4, 300));
        Check.due("19: the last of twelve", 11, () -> x.first(1, 4, -5));
        Check.due("19: none of twelve", NONE, () -> x.first(0, 2, 300));
        Check.due("20: the last of twelve", 2048, () -> x.lamps(0, 4, 300));
        Check.due("21: the last of twelve", 26, () -> x.stands(0, 11, 11));
        Check.due("22: the last of twelve", -5, () -> x.lean(1, false));
        Check.due("22: none of twelve", NONE, () -> x.lean(6, true));
        Check.due("16: behind one", 2, () -> x.place(0));
        Check.argument("15: there is no thirteenth", () -> x.best(12));
    }

    private static void argumentAheadOfState() {
        Check.argument("weigh, over", () -> Runs.over().weigh(99, 0));
        Check.argument("weigh's tenths, over", () -> Runs.over().weigh(100, 100));
        Check.argument("crack, over", () -> Runs.over().crack(10, 0));
        Check.argument("crack's tenths, over", () -> Runs.over().crack(0, -100));
        Check.argument("appeal's day", () -> new WeighOff(3).appeal(0, 7));
        Check.argument("appeal's grower", () -> new WeighOff(3).appeal(3, 1));
    }

    private static void throwingChangesNothing() {
        WeighOff x = board();
        String before = Story.asked(x);
        Check.argument("open", () -> x.open(2));
        Check.argument("weigh", () -> x.weigh(9999, 100));
        Check.argument("crack", () -> x.crack(9999, 100));
        Check.argument("leave", () -> x.leave(4));
        Check.state("leave twice", () -> x.leave(3));
        Check.state("appeal", () -> x.appeal(0, 1));
        Check.argument("record", () -> x.record(1000));
        Check.argument("prize", () -> x.prize(1000));
        Check.same("a call that throws changes nothing", before, Story.asked(x));
        WeighOff y = Runs.over();
        String still = Story.asked(y);
        Check.state("weigh, over", () -> y.weigh(9999, 0));
        Check.state("crack, over", () -> y.crack(9999, 0));
        Check.state("pass, over", y::pass);
        Check.same("nor when it is over", still, Story.asked(y));
    }
}
