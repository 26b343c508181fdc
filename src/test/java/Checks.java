/** Counts the calls whose answer is not the one that is due. */
final class Checks {
    interface Call {
        long answer();
    }

    private final String name;
    private int made;
    private int wrong;

    Checks(String name) {
        this.name = name;
    }

    /** A house from a text that leaves no command out. */
    static StandIns house(String text) {
        StandIns x = new StandIns();
        put(x, text);
        if (x.load() != 0) {
            throw new IllegalArgumentException("a command is left out: " + text);
        }
        return x;
    }

    static void put(StandIns x, String text) {
        for (char c : text.toCharArray()) {
            x.append(c);
        }
    }

    void due(String what, long want, Call call) {
        made++;
        try {
            long got = call.answer();
            if (got != want) {
                tell(what + " answered " + got + ", due is " + want);
            }
        } catch (RuntimeException e) {
            tell(what + " threw " + e + ", due is " + want);
        }
    }

    void same(String what, String want, String got) {
        made++;
        if (!want.equals(got)) {
            tell(what + ":\n  got " + got + "\n  due " + want);
        }
    }

    // that nothing changes behind a refused call is tested by EdgesTest, on objects of its own

    void outOfBounds(String what, Call call) {
        refused(what, call, IndexOutOfBoundsException.class);
    }

    void badArgument(String what, Call call) {
        refused(what, call, IllegalArgumentException.class);
    }

    void badState(String what, Call call) {
        refused(what, call, IllegalStateException.class);
    }

    private void refused(String what, Call call, Class<? extends RuntimeException> want) {
        made++;
        try {
            tell(what + " answered " + call.answer() + ", due is " + want.getSimpleName());
        } catch (RuntimeException e) {
            if (e.getClass() != want) {
                tell(what + " threw " + e + ", due is " + want.getSimpleName());
            }
        }
    }

    private void tell(String what) {
        wrong++;
        System.out.println(name + ": " + what);
    }

    void end() {
        System.out.println(name + ": " + made + " checks, " + wrong + " wrong");
        if (wrong != 0 || made == 0) {
            System.exit(1);
        }
    }
}
