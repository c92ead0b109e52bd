/** Counts and prints the calls whose answers are not the ones that are due. */
final class Check {
    /** A call that should throw. */
    interface Call {
        void run();
    }

    private int wrong;

    void due(String call, long got, long want) {
        if (got != want) {
            wrong++;
            System.out.println(call + " answered " + got + ", due is " + want);
        }
    }

    void due(String call, boolean got, boolean want) {
        due(call, got ? 1 : 0, want ? 1 : 0);
    }

    void holds(String what, boolean is) {
        if (!is) {
            wrong++;
            System.out.println("not so: " + what);
        }
    }

    void bounds(String call, Call run) {
        thrown(call, run, IndexOutOfBoundsException.class);
    }

    void argument(String call, Call run) {
        thrown(call, run, IllegalArgumentException.class);
    }

    void state(String call, Call run) {
        thrown(call, run, IllegalStateException.class);
    }

    void element(String call, Call run) {
        thrown(call, run, java.util.NoSuchElementException.class);
    }

    /** The class must be the very one: what the machine throws is often a class below it. */
    private void thrown(String call, Call run, Class<?> want) {
        try {
            run.run();
        } catch (RuntimeException e) {
            holds(call + " threw " + e.getClass().getName() + ", due is " + want.getName(), e.getClass() == want);
            return;
        }
        holds(call + " threw nothing, due is " + want.getName(), false);
    }

    void end() {
        System.out.println(wrong == 0 ? "all answers are as due" : wrong + " answers are not as due");
        if (wrong != 0) {
            System.exit(1);
        }
    }
}
