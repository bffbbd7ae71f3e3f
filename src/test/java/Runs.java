/** Runs of calls that several tests begin with. */
final class Runs {
    private Runs() {}

    /** Entries in turn: a number of whole pounds is weighed with tilt 0, 0 cracks, -1 passes. */
    static void enter(WeighOff x, int... pounds) {
        for (int each : pounds) {
            if (each > 0) {
                x.weigh(each * 10, 0);
            } else if (each == 0) {
                x.crack(0, 0);
            } else {
                x.pass();
            }
        }
    }

    static void passes(WeighOff x, int times) {
        for (int n = 0; n < times; n++) {
            x.pass();
        }
    }

    /** Everybody passes, in this order, and then it is this day. */
    static void dueOrder(String what, WeighOff x, int nextDay, int... order) {
        for (int who : order) {
            Check.due(what + ", turn", who, x::turn);
            x.pass();
        }
        Check.due(what + ", the day behind it", nextDay, x::day);
    }

    /** Over at the cut: nobody had a weight. */
    static WeighOff over() {
        WeighOff x = new WeighOff(3);
        passes(x, 9);
        return x;
    }

    /** Over behind day 6, all three growers being in it. */
    static WeighOff overBehindDaySix() {
        WeighOff x = lastEntryOfDaySix();
        x.pass();
        return x;
    }

    /** One entry is to come, the last of day 6: that of grower 0. */
    static WeighOff lastEntryOfDaySix() {
        WeighOff x = new WeighOff(3);
        enter(x, 300, 200, 100);
        passes(x, 14);
        return x;
    }

    /** Over on day 1, for all left. */
    static WeighOff overForAllLeft() {
        WeighOff x = new WeighOff(3);
        for (int who = 0; who < 3; who++) {
            x.leave(who);
        }
        return x;
    }

    /**
     * Four growers on day 2, a record, a prize, and every kind of entry: 0 weighed 500 and 300,
     * 1 cracked a measured fruit, 2 passed, 3 cracked one that was not measured and left; 1 has the
     * turn.
     */
    static WeighOff middle() {
        WeighOff x = new WeighOff(4);
        x.prize(400);
        x.weigh(5009, 5);
        x.crack(7009, 9);
        x.pass();
        x.crack(0, -4);
        x.leave(3);
        x.weigh(3000, -7);
        return x;
    }

    /** As middle(), and the level is off. */
    static WeighOff middleWithoutLevel() {
        WeighOff x = middle();
        x.level(false);
        return x;
    }
}
