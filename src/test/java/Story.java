/**
 * What an object tells, as a text, to see whether two are in the same state. For twelve growers it
 * takes fewer than 400 calls, so that an object with a short run before it stays below 512.
 */
final class Story {
    private static final int NONE = -1000000;
    private static final int DAYS = 6;
    private static final int MOST_ENTRIES = 72;

    private Story() {}

    /** Everything that can be asked of turn, day, entries, bests, places, prize and record. */
    static String asked(WeighOff x) {
        StringBuilder told = new StringBuilder();
        told.append(x.turn()).append(' ').append(x.day());
        looks(x, told);
        int growers = x.look(4);
        for (int who = 0; who < growers; who++) {
            told.append('/').append(x.best(who)).append(' ').append(x.place(who));
            told.append(' ').append(x.wins(who));
            for (int day = 1; day <= DAYS; day++) {
                told.append(' ').append(x.weight(who, day)).append(':').append(x.tilt(who, day));
            }
        }
        return told.toString();
    }

    /**
     * What can be asked, and then what only a longer run shows: whether the level is on, the orders
     * to come, what was measured, and who left. The object is played to its end.
     */
    static String toTheEnd(WeighOff x) {
        StringBuilder told = new StringBuilder(asked(x));
        told.append(" level ").append(x.level(true));
        for (int entry = 0; entry < MOST_ENTRIES; entry++) {
            int who = x.turn();
            if (who == NONE) {
                break;
            }
            told.append(" turn ").append(who).append(' ').append(x.weigh(1000 + 70 * who, who));
        }
        int growers = x.look(4);
        for (int who = 0; who < growers; who++) {
            appeals(x, who, told);
            told.append(" leave ").append(leaving(x, who)).append(' ').append(x.place(who));
        }
        looks(x, told);
        return told.toString();
    }

    private static void looks(WeighOff x, StringBuilder told) {
        for (int what = 0; what < 6; what++) {
            told.append(' ').append(x.look(what));
        }
    }

    private static void appeals(WeighOff x, int who, StringBuilder told) {
        for (int day = 1; day <= 2; day++) {
            told.append(" appeal ").append(appealing(x, who, day));
        }
    }

    private static String appealing(WeighOff x, int who, int day) {
        try {
            return Integer.toString(x.appeal(who, day));
        } catch (IllegalStateException e) {
            return "refused";
        }
    }

    private static String leaving(WeighOff x, int who) {
        try {
            x.leave(who);
            return "done";
        } catch (IllegalStateException e) {
            return "refused";
        }
    }
}
