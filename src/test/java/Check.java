/** Counts what is not as due; each test ends with over(). */
final class Check {
    interface Call {
        void go();
    }

    interface CallOf {
        void go(Archeloft x);
    }

    private static int wrong = 0;

    private Check() {
    }

    static void due(String call, long got, long want) {
        if (got != want) {
            tell(call + " answered " + got + ", due is " + want);
        }
    }

    static void due(String call, boolean got, boolean want) {
        if (got != want) {
            tell(call + " answered " + got + ", due is " + want);
        }
    }

    static void due(String call, String got, String want) {
        if (!got.equals(want)) {
            tell(call + " answered " + got + ", due is " + want);
        }
    }

    static void noSuchElement(String call, Call made) {
        due(call, thrownBy(made), "NoSuchElementException");
    }

    static void illegalArgument(String call, Call made) {
        due(call, thrownBy(made), "IllegalArgumentException");
    }

    static void illegalState(String call, Call made) {
        due(call, thrownBy(made), "IllegalStateException");
    }

    static void outOfBounds(String call, Call made) {
        due(call, thrownBy(made), "IndexOutOfBoundsException");
    }

    /** The call is refused, and behind it the store tells the same story as a twin that never saw it. */
    static void refused(State state, String call, String exception, CallOf made) {
        Archeloft x = new Archeloft();
        Archeloft twin = new Archeloft();
        state.build(x);
        state.build(twin);
        due(state + ": " + call, thrownBy(() -> made.go(x)), exception);
        String change = Story.difference(Story.of(x), Story.of(twin));
        due(state + ": refused " + call + " has changed", change, "none");
    }

    static void over() {
        if (wrong != 0) {
            System.out.println(wrong + " answers are not as due");
            System.exit(1);
        }
    }

    private static String thrownBy(Call made) {
        try {
            made.go();
            return "nothing";
        } catch (RuntimeException e) {
            return nameOf(e);
        }
    }

    /** What the library throws, though of the same class, is not what the class under test threw. */
    static String nameOf(RuntimeException e) {
        StackTraceElement[] trace = e.getStackTrace();
        String thrower = trace.length == 0 ? "?" : trace[0].getClassName();
        String name = e.getClass().getSimpleName();
        return thrower.equals("Archeloft") ? name : name + " of " + thrower;
    }

    private static void tell(String what) {
        wrong++;
        System.out.println(what);
    }
}
