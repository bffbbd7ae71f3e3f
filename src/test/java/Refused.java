/** A call that is refused: it throws what is due, and nothing has changed behind it. */
final class Refused {
    interface Made {
        WeighOff object();
    }

    interface Call {
        void on(WeighOff x);
    }

    private Refused() {}

    static void argument(String what, Made made, Call call) {
        WeighOff x = made.object();
        Check.argument(what, () -> call.on(x));
        unchanged(what, made, x);
    }

    static void state(String what, Made made, Call call) {
        WeighOff x = made.object();
        Check.state(what, () -> call.on(x));
        unchanged(what, made, x);
    }

    /** A twin that had no such call tells the same, to its end. */
    private static void unchanged(String what, Made made, WeighOff x) {
        String due = Story.toTheEnd(made.object());
        Check.same(what + ", nothing has changed", due, Story.toTheEnd(x));
    }
}
