import java.lang.reflect.InvocationTargetException;
import java.lang.reflect.Method;
import java.util.HashMap;
import java.util.Map;
import java.util.Random;

/** Random runs of 512 calls: each answer, each exception of FreshLines has to be that of SlowLines. Takes: how many runs, the first seed. */
public final class ModelTest {
    static final int MOST_CALLS = 512;
    static final Map<String, Method> FACE = new HashMap<>();
    static final String[] ASKED = {"told", "told", "root", "line", "line", "word", "sound", "where", "found", "node", "node", "minor", "held",
        "held", "used", "above", "under", "dirty", "fetched", "stored", "album", "kept", "laid", "laid", "mends", "stale", "left", "wear", "costs",
        "costs", "flushes", "after", "losses", "replayed", "replayed", "forgeries", "splices", "tour", "stop", "reel", "reelBy", "least", "pad",
        "weight", "box", "print", "status", "count", "fault", "feed"};

    final Random random;
    final FreshLines fresh = new FreshLines();
    final SlowLines slow = new SlowLines();
    final StringBuilder log = new StringBuilder();
    /** No more than 512: what later calls answer is free. */
    int calls;
    final int few;
    /** 0: nobody outside does anything, and power stays; 1: copies, and power lost with mend at once; 2: all. */
    final int harm;

    ModelTest(long seed) {
        random = new Random(seed);
        few = 1 + random.nextInt(4);
        harm = random.nextInt(3);
    }

    public static void main(String[] args) throws Exception {
        for (Method m : FreshLines.class.getDeclaredMethods()) {
            if (java.lang.reflect.Modifier.isPublic(m.getModifiers())) {
                FACE.put(m.getName(), m);
            }
        }
        int runs = args.length > 0 ? Integer.parseInt(args[0]) : 240;
        long first = args.length > 1 ? Long.parseLong(args[1]) : 1;
        for (long seed = first; seed < first + runs; seed++) {
            ModelTest test = new ModelTest(seed);
            if (!test.run()) {
                System.out.println("seed " + seed + ", a run of calls:\n" + test.log);
                System.exit(1);
            }
        }
        System.out.println("FreshLines answers as SlowLines does in " + runs + " runs");
    }

    boolean run() throws Exception {
        if (random.nextInt(8) > 0 && !text(machine(), "machine")) {
            return false;
        }
        boolean storm = random.nextInt(3) == 0;
        while (calls < MOST_CALLS) {
            int what = random.nextInt(storm ? 3 : 12);
            if (what == 0) {
                int n = 1 + random.nextInt(3);
                for (int i = 0; i < n; i++) {
                    boolean other = random.nextInt(12) == 0;
                    if (!text(other ? machine() : work(), other == random.nextInt(60) > 0 ? "machine" : "work")) {
                        return false;
                    }
                }
            } else {
                String name = ASKED[random.nextInt(ASKED.length)];
                if (name.equals("feed") && random.nextInt(5) > 0) {
                    continue;
                }
                if (!same(name, arguments(name))) {
                    return false;
                }
            }
        }
        return true;
    }

    boolean text(String text, String kind) throws Exception {
        if (random.nextInt(12) == 0) {
            text = spoil(text);
        }
        int length = Math.min(text.length(), kind.equals("work") && random.nextInt(40) > 0 ? 150 : 600);
        for (int at = 0; at < length; at += 20) {
            long[] n = new long[5];
            for (int i = 0; i < 20; i++) {
                int b = at + i < text.length() ? text.charAt(at + i) : 0;
                n[i / 4] |= (long) b << (8 * (3 - i % 4));
            }
            for (int i = 0; i < 5; i++) {
                n[i] = (int) n[i];
            }
            if (!same("feed", n)) {
                return false;
            }
        }
        log.append(" text ").append(text).append('\n');
        if (random.nextInt(30) == 0 && !same(kind, random.nextBoolean() ? -1 : 601)) {
            return false;
        }
        return same(kind, length) && same("fault") && same("count") && (random.nextInt(3) > 0 || look());
    }

    boolean look() throws Exception {
        for (int w = 0; w < 16; w++) {
            if (!same("told", w)) {
                return false;
            }
        }
        for (int d = 1; d <= slow.depth + 1; d++) {
            if (!same("fetched", d) || !same("stored", d)) {
                return false;
            }
        }
        return same("print") && same("dirty");
    }

    String gap() {
        return random.nextInt(20) == 0 ? "  ".substring(random.nextInt(2)) : "";
    }

    String machine() {
        StringBuilder s = new StringBuilder();
        int n = random.nextInt(6);
        for (int i = 0; i < n; i++) {
            s.append(gap());
            switch (random.nextInt(5)) {
                case 0: case 1: {
                    int f = 2 + random.nextInt(3);
                    int d = 1 + random.nextInt(f == 2 ? 5 : 2);
                    int c = random.nextBoolean() ? d + random.nextInt(Math.min(3, 13 - d)) : d + random.nextInt(13 - d);
                    s.append("tree").append(gap()).append(f).append(' ').append(gap()).append(d).append(' ').append(c);
                    break;
                }
                case 2: s.append("minor ").append(1 + random.nextInt(random.nextBoolean() ? 1 : 4)); break;
                case 3: s.append("key ").append(random.nextInt(1000000000)); break;
                default: s.append("word ").append(random.nextInt(random.nextBoolean() ? 64 : 8)).append(' ').append(random.nextInt(100000000)); break;
            }
            s.append(gap()).append(';');
        }
        s.append(gap());
        return s.toString();
    }

    int someLine() {
        return random.nextInt(4) == 0 ? random.nextInt(slow.lineCount) : random.nextInt(Math.min(few * 2, slow.lineCount));
    }

    int someNode() {
        return random.nextInt(slow.nodeCount);
    }

    String step(int open) {
        int sort = random.nextInt(22);
        if (harm < 2 && (sort == 8 || sort == 10) || harm < 1 && sort == 11) {
            sort = random.nextInt(8);
        }
        boolean rarely = harm == 2 && random.nextInt(4) == 0;
        switch (sort) {
            case 0: case 1: case 2: case 3: return "write " + someLine() + " " + random.nextInt(random.nextBoolean() ? 10 : 100000000) + ";";
            case 4: case 5: case 6: return "read " + someLine() + ";";
            case 7: return "flush;";
            case 8: return "loss;";
            case 9: case 10: return "mend;";
            case 11: return !rarely ? "loss;mend;" : "flip " + someLine() + " " + random.nextInt(4) + " " + (1 + random.nextInt(255)) + ";";
            case 12: return !rarely ? "read " + someLine() + ";" : "bend " + someNode() + " " + random.nextInt(slow.fan + 2) + " " + (1 + random.nextInt(999)) + ";";
            case 13: return "copy " + someLine() + ";";
            case 14: return "pick " + someNode() + ";";
            case 15: return !rarely ? "copy " + someLine() + ";" : "lay " + random.nextInt(8) + " " + someLine() + ";";
            case 16: return !rarely ? "pick " + someNode() + ";" : "graft " + random.nextInt(8) + " " + someNode() + ";";
            case 17: return "shoot;";
            case 18: return !rarely ? "shoot;" : "replay " + random.nextInt(3) + ";";
            default: {
                if (open > 6) {
                    return "flush;";
                }
                StringBuilder s = new StringBuilder("again " + random.nextInt(random.nextBoolean() ? 4 : 61) + gap() + "[" + gap());
                int n = random.nextInt(4);
                for (int i = 0; i < n; i++) {
                    s.append(step(open + 1));
                }
                return s + gap() + "]" + gap() + ";";
            }
        }
    }

    String work() {
        if (random.nextInt(6) == 0) {
            int line = someLine();
            String flush = random.nextInt(3) == 0 ? "flush;" : random.nextInt(3) == 0 ? "write " + (slow.lineCount - 1) + " 1;" : "";
            return "again 60[again 60[write " + line + " 1;" + flush + "];];";
        }
        StringBuilder s = new StringBuilder();
        while (true) {
            String step = gap() + step(0);
            if (s.length() + step.length() > 150) {
                return s.toString();
            }
            s.append(step);
            if (random.nextInt(9) == 0) {
                return s + gap();
            }
        }
    }

    String spoil(String text) {
        if (text.isEmpty()) {
            return "x";
        }
        int at = random.nextInt(text.length());
        String signs = "0123456789 ;[]abcdefghijklmnopqrstuvwxyzA-\0\u00ff";
        char c = signs.charAt(random.nextInt(signs.length()));
        switch (random.nextInt(4)) {
            case 0: return text.substring(0, at);
            case 1: return text.substring(0, at) + c + text.substring(at);
            case 2: return text.substring(0, at) + text.substring(at + 1);
            default: return text.substring(0, at) + c + text.substring(at + 1);
        }
    }

    long[] arguments(String name) {
        Class<?>[] types = FACE.get(name).getParameterTypes();
        long[] a = new long[types.length];
        for (int i = 0; i < a.length; i++) {
            a[i] = argument(name, i);
        }
        if (random.nextInt(25) == 0 && a.length > 0) {
            int i = random.nextInt(a.length);
            long[] odd = {-1, 64, 62, 16, 8, 5, 13, 11, 256, 1024, 100, Integer.MAX_VALUE, Integer.MIN_VALUE, slow.lineCount, slow.nodeCount, slow.fan, slow.fan + 1, slow.depth + 2};
            a[i] = odd[random.nextInt(odd.length)];
        }
        return a;
    }

    long argument(String name, int i) {
        switch (name + i) {
            case "told0": return random.nextInt(17);
            case "root0": return random.nextInt(slow.fan + 2);
            case "line1": case "node1": return random.nextInt(8);
            case "node0": case "minor0": case "under0": return someNode();
            case "held0": return slow.world.order.isEmpty() || random.nextInt(8) == 0 ? someNode() : slow.world.order.get(random.nextInt(slow.world.order.size()));
            case "minor1": case "held1": return random.nextInt(slow.fan + 1);
            case "used0": return random.nextInt(13);
            case "above1": case "fetched0": case "stored0": return 1 + random.nextInt(slow.depth + 1);
            case "album0": case "kept0": case "laid0": return random.nextInt(slow.album.size() + (random.nextInt(9) == 0 ? 1 : 0) + (slow.album.isEmpty() ? 1 : 0));
            case "laid1": return random.nextInt(3) == 0 ? random.nextInt(64) : someLine();
            case "album1": return random.nextInt(4);
            case "kept1": return random.nextInt(5);
            case "costs1": return random.nextInt(2);
            case "costs2": case "after2": case "flushes0": return random.nextInt(3);
            case "after1": return 1 + random.nextInt(random.nextBoolean() ? 99 : 9);
            case "losses0": case "replayed1": case "reelBy1": return random.nextInt(2);
            case "replayed0": return random.nextInt(Math.max(slow.shots.size(), 1));
            case "tour0": case "stop0": {
                long bits = 0;
                int n = random.nextInt(6);
                for (int k = 0; k < n; k++) {
                    bits |= 1L << someLine();
                }
                return random.nextInt(30) == 0 ? random.nextLong() : bits;
            }
            case "stop1": return random.nextInt(6);
            case "reel0": return random.nextInt(26);
            case "reelBy0": return slow.depth + random.nextInt(13 - slow.depth);
            case "least0": return random.nextInt(60);
            case "pad1": return random.nextInt(1024);
            case "weight0": return random.nextInt(11);
            case "box0": return random.nextInt(256);
            case "status0": return random.nextInt(6);
            case "feed0": case "feed1": case "feed2": case "feed3": case "feed4": return random.nextInt();
            default: return someLine();
        }
    }

    /** True without a call, when there were 512 of them. */
    boolean same(String name, long... a) throws Exception {
        if (calls == MOST_CALLS) {
            return true;
        }
        calls++;
        String got = ofFresh(name, a);
        String want = ofSlow(name, a);
        log.append(name).append(java.util.Arrays.toString(a)).append(" -> ").append(got);
        if (!got.equals(want)) {
            log.append(", due is ").append(want);
        }
        log.append('\n');
        return got.equals(want);
    }

    String ofFresh(String name, long[] a) throws Exception {
        Method method = FACE.get(name);
        Object[] given = new Object[a.length];
        for (int i = 0; i < a.length; i++) {
            if (method.getParameterTypes()[i] == long.class) {
                given[i] = a[i];
            } else {
                given[i] = (int) a[i];
            }
        }
        try {
            Object answer = method.invoke(fresh, given);
            return answer instanceof Boolean ? (Boolean) answer ? "1" : "0" : answer.toString();
        } catch (InvocationTargetException e) {
            return e.getCause().getClass().getSimpleName();
        }
    }

    String ofSlow(String name, long[] a) {
        try {
            return Long.toString(slow.call(name, a));
        } catch (IllegalStateException e) {
            throw e;
        } catch (RuntimeException e) {
            return e.getClass().getSimpleName();
        }
    }
}
