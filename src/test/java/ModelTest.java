import java.util.ArrayList;
import java.util.Collections;
import java.util.Comparator;
import java.util.List;
import java.util.Random;

/**
 * Compares WeighOff with a second program of the document, which keeps a plain list of entries and
 * works every answer out anew, over runs that are drawn from fixed seeds.
 */
public final class ModelTest {
    private static final int NONE = -1000000;
    private static final int RUNS = 6000;
    private static final int CALLS = 512;
    private static final int[] FAR = {Integer.MIN_VALUE, Integer.MAX_VALUE, NONE, -1, 0, 13, 7};

    /** Thrown by the model, so that it is never taken for an exception of the program. */
    private static final class Refused extends RuntimeException {
        private static final long serialVersionUID = 1L;
        final String name;

        Refused(boolean argument) {
            name = argument ? "IllegalArgumentException" : "IllegalStateException";
        }
    }

    private static final class Entry {
        final int who;
        final int day;
        final int tilt;
        final int measured;
        int mark;

        Entry(int who, int day, int mark, int tilt, int measured) {
            this.who = who;
            this.day = day;
            this.mark = mark;
            this.tilt = tilt;
            this.measured = measured;
        }

        int value(int what) {
            return what == 1 ? tilt : mark > 0 ? mark : NONE;
        }
    }

    private static final class Model {
        int growers;
        boolean level = true;
        int record = NONE;
        int prize = NONE;
        int records = 0;
        int day;
        List<Integer> toCome;
        List<Integer> here;
        List<Integer> cutOrder;
        List<Entry> entries;

        Model(int growers) {
            begin(growers < 3 || growers > 12 ? 8 : growers);
        }

        void begin(int n) {
            growers = n;
            day = 1;
            entries = new ArrayList<>();
            here = new ArrayList<>();
            for (int who = 0; who < n; who++) {
                here.add(who);
            }
            toCome = new ArrayList<>(here);
        }

        static void argument(boolean right) {
            if (!right) {
                throw new Refused(true);
            }
        }

        static void state(boolean right) {
            if (!right) {
                throw new Refused(false);
            }
        }

        static boolean within(int number, int least, int most) {
            return least <= number && number <= most;
        }

        void grower(int who) {
            argument(within(who, 0, growers - 1));
        }

        void dayIs(int number) {
            argument(within(number, 1, 6));
        }

        int enter(int mark, int tilt, int measured) {
            entries.add(new Entry(toCome.remove(0), day, mark, tilt, measured));
            maybeRecord(entries.get(entries.size() - 1));
            nextDayIfDone();
            return mark;
        }

        void maybeRecord(Entry e) {
            if (e.mark > 0 && e.tilt != NONE && e.tilt <= 20 && (record == NONE || e.mark > record)) {
                record = e.mark;
                records++;
            }
        }

        void nextDayIfDone() {
            if (!toCome.isEmpty() || day == 7) {
                return;
            }
            if (day == 3) {
                cutOrder = new ArrayList<>();
                for (int who = 0; who < growers; who++) {
                    if (best(who) != NONE && place(who) <= 8) {
                        cutOrder.add(who);
                    }
                }
            }
            if (day == 3 || day == 5) {
                cutOrder.sort(Comparator.<Integer>comparingInt(who -> place(who))
                        .thenComparingInt(who -> who).reversed());
            }
            day++;
            toCome = new ArrayList<>(day <= 3 ? here : cutOrder);
            toCome.retainAll(here);
            if (day == 7 || toCome.isEmpty()) {
                day = 7;
                toCome = new ArrayList<>();
            }
        }

        int tiltNow(int tenths) {
            return level ? tenths : NONE;
        }

        Entry at(int who, int onDay) {
            for (Entry e : entries) {
                if (e.who == who && e.day == onDay) {
                    return e;
                }
            }
            return null;
        }

        Entry latest(int who) {
            Entry last = null;
            for (Entry e : entries) {
                last = e.who == who ? e : last;
            }
            return last;
        }

        List<Integer> weights(int who) {
            List<Integer> found = new ArrayList<>();
            for (Entry e : entries) {
                if (e.who == who && e.mark > 0) {
                    found.add(e.mark);
                }
            }
            found.sort(Collections.reverseOrder());
            return found;
        }

        int best(int who) {
            List<Integer> found = weights(who);
            return found.isEmpty() ? NONE : found.get(0);
        }

        boolean before(List<Integer> one, List<Integer> other) {
            for (int n = 0; n < one.size(); n++) {
                if (n >= other.size()) {
                    return true;
                }
                if (!one.get(n).equals(other.get(n))) {
                    return one.get(n) > other.get(n);
                }
            }
            return false;
        }

        int place(int who) {
            int place = 1;
            for (int other = 0; other < growers; other++) {
                place += before(weights(other), weights(who)) ? 1 : 0;
            }
            return place;
        }

        static boolean holds(int sign, int one, int other) {
            if (one == NONE || other == NONE) {
                return sign == 5;
            }
            int order = Integer.compare(one, other);
            boolean[] all = {order < 0, order <= 0, order > 0, order >= 0, order == 0, order != 0};
            return all[sign];
        }

        int shown(int what, int who) {
            Entry last = latest(who);
            return what == 0 ? best(who) : last == null ? NONE : last.tilt;
        }

        void board(int what, int sign) {
            argument(within(what, 0, 1) && within(sign, 0, 5));
        }

        long answer(int call, int a, int b, int c) {
            switch (call) {
                case 0:
                    argument(within(a, 3, 12));
                    begin(a);
                    return 0;
                case 1:
                    argument(within(a, 100, 9999) && within(b, -99, 99));
                    state(day != 7);
                    return enter(a / 10, tiltNow(b), 0);
                case 2:
                    argument((a == 0 || within(a, 100, 9999)) && within(b, -99, 99));
                    state(day != 7);
                    enter(-1, tiltNow(b), a / 10);
                    return 0;
                case 3:
                    state(day != 7);
                    enter(-2, NONE, 0);
                    return 0;
                case 4:
                    grower(a);
                    state(here.contains(a));
                    here.remove((Integer) a);
                    toCome.remove((Integer) a);
                    nextDayIfDone();
                    return 0;
                case 5:
                    return appeal(a, b);
                case 6:
                    boolean changed = level != (a != 0);
                    level = a != 0;
                    return changed ? 1 : 0;
                case 7:
                    argument(within(a, 0, 999));
                    record = a == 0 ? NONE : a;
                    return 0;
                case 8:
                    argument(within(a, 0, 999));
                    prize = a == 0 ? NONE : a;
                    return 0;
                default:
                    return asked(call, a, b, c);
            }
        }

        int appeal(int who, int onDay) {
            grower(who);
            dayIs(onDay);
            Entry e = at(who, onDay);
            state(e != null && e.mark == -1 && e.measured != 0);
            e.mark = e.measured;
            maybeRecord(e);
            return e.mark;
        }

        long asked(int call, int a, int b, int c) {
            switch (call) {
                case 9:
                    return day == 7 ? NONE : toCome.get(0);
                case 10:
                    return day;
                case 11:
                case 12:
                    grower(a);
                    dayIs(b);
                    Entry e = at(a, b);
                    return e == null ? NONE : call == 11 ? e.mark : e.tilt;
                case 13:
                    grower(a);
                    return best(a);
                case 14:
                    grower(a);
                    return place(a);
                case 15:
                    grower(a);
                    return prize != NONE && best(a) >= prize ? 1 : 0;
                case 16:
                    board(a, b);
                    return entries.stream().filter(x -> holds(b, x.value(a), c)).count();
                case 17:
                    board(a, b);
                    for (int who = 0; who < growers; who++) {
                        if (latest(who) != null && holds(b, latest(who).value(a), c)) {
                            return who;
                        }
                    }
                    return NONE;
                case 18:
                    board(a, b);
                    int lit = 0;
                    for (int who = 0; who < growers; who++) {
                        lit += holds(b, shown(a, who), c) ? 1 << who : 0;
                    }
                    return lit;
                case 19:
                    return stands(a, b, c);
                case 20:
                    dayIs(a);
                    return entries.stream().filter(x -> x.day == a && x.tilt != NONE)
                            .mapToInt(x -> x.tilt).reduce((x, y) -> b != 0 ? Math.min(x, y) : Math.max(x, y))
                            .orElse(NONE);
                default:
                    argument(within(a, 0, 5));
                    int[] seen = {record, prize, records, entries.size(), growers, growers - here.size()};
                    return seen[a];
            }
        }

        long stands(int what, int one, int other) {
            argument(within(what, 0, 1));
            grower(one);
            grower(other);
            int sum = 0;
            for (int sign = 0; sign <= 5; sign++) {
                sum += holds(sign, shown(what, one), shown(what, other)) ? 1 << sign : 0;
            }
            return sum;
        }
    }

    private static long answer(WeighOff x, int call, int a, int b, int c) {
        switch (call) {
            case 0: x.open(a); return 0;
            case 1: return x.weigh(a, b);
            case 2: x.crack(a, b); return 0;
            case 3: x.pass(); return 0;
            case 4: x.leave(a); return 0;
            case 5: return x.appeal(a, b);
            case 6: return x.level(a != 0) ? 1 : 0;
            case 7: x.record(a); return 0;
            case 8: x.prize(a); return 0;
            case 9: return x.turn();
            case 10: return x.day();
            case 11: return x.weight(a, b);
            case 12: return x.tilt(a, b);
            case 13: return x.best(a);
            case 14: return x.place(a);
            case 15: return x.wins(a) ? 1 : 0;
            case 16: return x.count(a, b, c);
            case 17: return x.first(a, b, c);
            case 18: return x.lamps(a, b, c);
            case 19: return x.stands(a, b, c);
            case 20: return x.lean(a, b != 0);
            default: return x.look(a);
        }
    }

    /** How often each call is drawn, by its number: entries and questions often, the rest seldom. */
    private static final int[] OFTEN = {
        1, 60, 40, 30, 5, 30, 8, 2, 4, 12, 8, 8, 8, 6, 12, 6, 12, 12, 12, 12, 8, 12};

    private static int draw(Random dice, int[] often) {
        int sum = 0;
        for (int each : often) {
            sum += each;
        }
        int at = dice.nextInt(sum);
        int call = 0;
        while (at >= often[call]) {
            at -= often[call];
            call++;
        }
        return call;
    }

    /** Few pounds and tilts, so that many are alike. */
    private static int tenthPounds(Random dice) {
        int[] edges = {100, 9999, 99, 10000};
        return dice.nextInt(40) == 0 ? edges[dice.nextInt(4)] : 3000 + dice.nextInt(4) * 10 + dice.nextInt(10);
    }

    private static int tenths(Random dice) {
        int[] edges = {-99, 99, -100, 100};
        return dice.nextInt(40) == 0 ? edges[dice.nextInt(4)] : 18 + dice.nextInt(5) - dice.nextInt(2) * 20;
    }

    private static int number(Random dice, int what) {
        int drawn = what == 0 ? tenthPounds(dice) / 10 : tenths(dice);
        return dice.nextInt(10) == 0 ? NONE : drawn;
    }

    private static int[] arguments(Random dice, int call, int growers) {
        int who = dice.nextInt(growers + (dice.nextInt(30) == 0 ? 2 : 0));
        int day = 1 + dice.nextInt(6);
        int what = dice.nextInt(2);
        int[] drawn = new int[3];
        if (call == 0) {
            drawn[0] = 2 + dice.nextInt(12);
        } else if (call == 1) {
            drawn = new int[] {tenthPounds(dice), tenths(dice), 0};
        } else if (call == 2) {
            drawn = new int[] {dice.nextInt(3) == 0 ? 0 : tenthPounds(dice), tenths(dice), 0};
        } else if (call == 6) {
            drawn[0] = dice.nextInt(3);
        } else if (call == 7 || call == 8) {
            drawn[0] = dice.nextInt(3) == 0 ? 0 : 298 + dice.nextInt(7);
        } else if (call == 20) {
            drawn = new int[] {day, dice.nextInt(2), 0};
        } else if (call == 21) {
            drawn[0] = dice.nextInt(6);
        } else if (call == 19) {
            drawn = new int[] {what, who, dice.nextInt(growers)};
        } else if (call >= 16) {
            drawn = new int[] {what, dice.nextInt(6), number(dice, what)};
        } else {
            drawn = new int[] {who, day, 0};
        }
        if (dice.nextInt(60) == 0) {
            drawn[dice.nextInt(3)] = FAR[dice.nextInt(FAR.length)];
        }
        return drawn;
    }

    private static String told(WeighOff x, int call, int[] with) {
        try {
            return Long.toString(answer(x, call, with[0], with[1], with[2]));
        } catch (RuntimeException e) {
            return e.getClass().getSimpleName();
        }
    }

    private static String told(Model model, int call, int[] with) {
        try {
            return Long.toString(model.answer(call, with[0], with[1], with[2]));
        } catch (Refused e) {
            return e.name;
        }
    }

    public static void main(String[] args) {
        int toTheEnd = 0;
        for (int run = 0; run < RUNS; run++) {
            Random dice = new Random(run);
            int growers = 2 + dice.nextInt(12);
            WeighOff x = new WeighOff(growers);
            Model model = new Model(growers);
            int[] often = OFTEN.clone();
            often[4] = dice.nextInt(8);
            boolean finished = false;
            for (int n = 0; n < CALLS; n++) {
                int call = draw(dice, often);
                int[] with = arguments(dice, call, model.growers);
                boolean lastDay = model.day == 6;
                String due = told(model, call, with);
                String what = "run " + run + ", call " + n + ": number " + call + " with "
                        + with[0] + ", " + with[1] + ", " + with[2];
                Check.same(what, due, told(x, call, with));
                finished |= lastDay && model.day == 7;
            }
            toTheEnd += finished ? 1 : 0;
        }
        Check.holds("many runs go through all six days", true, toTheEnd > RUNS / 4);
        Check.end();
    }
}
