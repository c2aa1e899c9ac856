import java.util.NoSuchElementException;

/** What all tests share: due answers, due exceptions, and texts fed to an object. */
final class Check {
    interface Call {
        long now();
    }

    static final Class<?> MISSING = NoSuchElementException.class;
    static final Class<?> ILLEGAL = IllegalArgumentException.class;
    static final Class<?> NULL = NullPointerException.class;
    static final Class<?> BOUNDS = IndexOutOfBoundsException.class;
    static final Class<?> KIND = ClassCastException.class;

    private static int wrong;
    private static int asked;
    /** The sentence of the document that is asked about. */
    private static String sentence = "";

    private Check() {
    }

    static void about(String words) {
        sentence = "[" + words + "] ";
    }

    private static void fail(String how) {
        wrong++;
        System.out.println(sentence + how);
    }

    static void due(String what, long want, long got) {
        asked++;
        if (got != want) {
            fail(what + " answered " + got + ", due is " + want);
        }
    }

    static void due(String what, String want, String got) {
        asked++;
        if (!got.equals(want)) {
            fail(what + " answered " + got + ", due is " + want);
        }
    }

    static void due(String what, boolean want, boolean got) {
        due(what, want ? 1 : 0, got ? 1 : 0);
    }

    static void thrown(String what, Class<?> want, Call call) {
        asked++;
        try {
            long got = call.now();
            fail(what + " answered " + got + ", due is " + want.getSimpleName());
        } catch (RuntimeException e) {
            if (e.getClass() != want) {
                fail(what + " threw " + e + ", due is " + want.getSimpleName());
            }
        }
    }

    static int feed(FreshLines x, String text) {
        for (int at = 0; at < text.length(); at += 20) {
            int[] n = new int[5];
            for (int i = 0; i < 20; i++) {
                int b = at + i < text.length() ? text.charAt(at + i) : 0;
                n[i / 4] |= b << 8 * (3 - i % 4);
            }
            x.feed(n[0], n[1], n[2], n[3], n[4]);
        }
        return text.length();
    }

    static int machine(FreshLines x, String text) {
        return x.machine(feed(x, text));
    }

    static int work(FreshLines x, String text) {
        return x.work(feed(x, text));
    }

    static FreshLines made(String machine) {
        FreshLines x = new FreshLines();
        machine(x, machine);
        return x;
    }

    static FreshLines made(String machine, String... works) {
        FreshLines x = made(machine);
        for (String work : works) {
            work(x, work);
        }
        return x;
    }

    /** A FAULT of that kind at that place, for a MACHINE. */
    static void machineFault(String text, int kind, int place) {
        FreshLines x = new FreshLines();
        due("machine '" + text + "'", kind - 10, machine(x, text));
        due("fault of machine '" + text + "'", place, x.fault());
    }

    static void workFault(String text, int kind, int place) {
        FreshLines x = new FreshLines();
        due("work '" + text + "'", kind - 10, work(x, text));
        due("fault of work '" + text + "'", place, x.fault());
        due("count behind work '" + text + "'", 0, x.count());
    }

    /** 0: the text is good; else the FAULT, and its place is looked at too. */
    static void machineOf(String text, int kind, int place) {
        FreshLines x = new FreshLines();
        int got = machine(x, text);
        due("machine '" + text + "'", kind == 0 ? x.told(4) : kind - 10, got);
        due("fault of machine '" + text + "'", place, x.fault());
    }

    static void workOf(FreshLines x, String text, int kind, int place) {
        int got = work(x, text);
        due("work '" + text + "' has a fault", kind == 0 ? 0 : kind - 10, kind == 0 ? Math.min(got, 0) : got);
        due("fault of work '" + text + "'", place, x.fault());
    }

    /** All that the object tells of itself without asking what would be, in some seventy calls; the TAPE and the status left out. */
    static String state(FreshLines x) {
        StringBuilder s = new StringBuilder();
        for (int what = 0; what <= 15; what++) {
            s.append(what == 10 ? "work " : what == 14 ? "outside " : "").append(x.told(what)).append(' ');
        }
        for (int j = 0; j <= x.told(0); j++) {
            s.append(j == 0 ? "root " : " ").append(x.root(j));
        }
        for (int k = 0; k < x.told(8); k++) {
            int node = x.used(k);
            s.append(" held ").append(node);
            for (int j = 0; j <= x.told(0); j++) {
                s.append(' ').append(x.held(node, j));
            }
        }
        for (int depth = 1; depth <= x.told(1) + 1; depth++) {
            s.append(" depth ").append(x.fetched(depth)).append(' ').append(x.stored(depth));
        }
        for (int k = 0; x.reel(k) != FreshLines.NONE; k++) {
            s.append(k == 0 ? " reel " : " ").append(x.reel(k));
        }
        for (int k = 0; k < x.told(15); k++) {
            s.append(" copy ").append(x.album(k, 0)).append(' ').append(x.album(k, 1)).append(' ').append(x.album(k, 2));
        }
        return s.append(" dirty ").append(x.dirty()).append(" print ").append(x.print()).toString();
    }

    /** A state without what the latest WORK had REFUSED. */
    static String unworked(String state) {
        return state.replaceAll("work .* outside", "outside");
    }

    static void end(String name) {
        System.out.println(name + ": " + asked + " asked, " + wrong + " wrong");
        if (wrong != 0) {
            throw new AssertionError(name + " failed");
        }
    }
}
