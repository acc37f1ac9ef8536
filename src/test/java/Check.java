/** Counts the answers that are not as due, for every test of the project. */
final class Check {
    interface Call {
        void make();
    }

    private static int wrong = 0;
    private static int looked = 0;
    private static String sentence = "";

    private Check() {
    }

    /** A test of its own for one sentence of the document; one that fails keeps no other from its run. */
    static void sentence(String words, Call test) {
        sentence = "'" + words + "': ";
        try {
            test.make();
        } catch (RuntimeException e) {
            tell("a call threw " + e.getClass().getName() + " that should not");
        }
        sentence = "";
    }

    static void due(String call, long want, long got) {
        looked++;
        if (want != got) {
            tell(call + " answered " + got + ", due is " + want);
        }
    }

    static void due(String call, boolean want, boolean got) {
        looked++;
        if (want != got) {
            tell(call + " answered " + got + ", due is " + want);
        }
    }

    static void due(String call, String want, String got) {
        looked++;
        if (!want.equals(got)) {
            tell(call + " answered " + got + ", due is " + want);
        }
    }

    static void dueState(String call, Call made) {
        dueThrow(call, IllegalStateException.class, made);
    }

    static void dueArgument(String call, Call made) {
        dueThrow(call, IllegalArgumentException.class, made);
    }

    static void dueIndex(String call, Call made) {
        dueThrow(call, IndexOutOfBoundsException.class, made);
    }

    static void dueThrow(String call, Class<? extends RuntimeException> want, Call made) {
        looked++;
        try {
            made.make();
        } catch (RuntimeException e) {
            if (e.getClass() != want) {
                tell(call + " threw " + e.getClass().getName() + ", due is " + want.getName());
            }
            return;
        }
        tell(call + " threw nothing, due is " + want.getName());
    }

    static void tell(String fault) {
        wrong++;
        if (wrong <= 50) {
            System.out.println(sentence + fault);
        }
    }

    static boolean hasFault() {
        return wrong != 0;
    }

    static void end(String name) {
        System.out.println(name + ": " + looked + " answers looked at, " + wrong + " not as due");
        if (wrong != 0) {
            System.exit(1);
        }
    }
}
