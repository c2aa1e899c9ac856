import java.util.NoSuchElementException;

/** What all tests share: due answers, due exceptions, and texts fed to an object. */
final class Check {
    interface Call {
        long now();
    }

    static final Class<?> MISSING = NoSuchElementException.class;
    static final Class<?> ILLEGAL = IllegalArgumentException.class;
    static final Class<?> NULL = NullPointerException.class;
    static final Class<?> BOUNDS = IndexOutOfBoundsException.class;
    static final Class<?> KIND = ClassCastException.class;

    private static int wrong;
    private static int asked;

    private Check() {
    }

    static void due(String what, long want, long got) {
        asked++;
        if (got != want) {
            wrong++;
            System.out.println(what + " answered " + got + ", due is " + want);
        }
    }

    static void due(String what, boolean want, boolean got) {
        due(what, want ? 1 : 0, got ? 1 : 0);
    }

    static void thrown(String what, Class<?> want, Call call) {
        asked++;
        try {
            long got = call.now();
            wrong++;
            System.out.println(what + " answered " + got + ", due is " + want.getSimpleName());
        } catch (RuntimeException e) {
            if (e.getClass() != want) {
                wrong++;
                System.out.println(what + " threw " + e + ", due is " + want.getSimpleName());
            }
        }
    }

    static int feed(FreshLines x, String text) {
        for (int at = 0; at < text.length(); at += 20) {
            int[] n = new int[5];
            for (int i = 0; i < 20; i++) {
                int b = at + i < text.length() ? text.charAt(at + i) : 0;
                n[i / 4] |= b << 8 * (3 - i % 4);
            }
            x.feed(n[0], n[1], n[2], n[3], n[4]);
        }
        return text.length();
    }

    static int machine(FreshLines x, String text) {
        return x.machine(feed(x, text));
    }

    static int work(FreshLines x, String text) {
        return x.work(feed(x, text));
    }

    static FreshLines made(String machine) {
        FreshLines x = new FreshLines();
        machine(x, machine);
        return x;
    }

    static FreshLines made(String machine, String... works) {
        FreshLines x = made(machine);
        for (String work : works) {
            work(x, work);
        }
        return x;
    }

    /** A FAULT of that kind at that place, for a MACHINE. */
    static void machineFault(String text, int kind, int place) {
        FreshLines x = new FreshLines();
        due("machine '" + text + "'", kind - 10, machine(x, text));
        due("fault of machine '" + text + "'", place, x.fault());
    }

    static void workFault(String text, int kind, int place) {
        FreshLines x = new FreshLines();
        due("work '" + text + "'", kind - 10, work(x, text));
        due("fault of work '" + text + "'", place, x.fault());
        due("count behind work '" + text + "'", 0, x.count());
    }

    static void end(String name) {
        System.out.println(name + ": " + asked + " asked, " + wrong + " wrong");
        if (wrong != 0) {
            System.exit(1);
        }
    }
}
