import java.util.ArrayList;
import java.util.Arrays;
import java.util.HashMap;
import java.util.LinkedList;
import java.util.List;
import java.util.Map;
import java.util.NoSuchElementException;
import java.util.TreeSet;

/**
 * The document once more, slow and without any short way: objects for NODES and LINES, whole copies of the
 * world for what would be, FOUND by trying each VERSION, TOURS by trying each row. ModelTest holds FreshLines to it.
 */
final class SlowLines {
    static final class Fault extends RuntimeException {
        final int kind;
        final int place;
        Fault(int kind, int place) { this.kind = kind; this.place = place; }
    }

    /** depth 0: without power; -1: WORN; -2: another reason. */
    static final class No extends RuntimeException {
        final int depth;
        No(int depth) { this.depth = depth; }
    }

    static final class Num {
        int major;
        int[] minors;
        Num(int fan) { minors = new int[fan]; }
        Num copy() { Num n = new Num(minors.length); n.major = major; n.minors = minors.clone(); return n; }
        boolean same(Num o) { return major == o.major && Arrays.equals(minors, o.minors); }
    }

    static final class OutNode { Num num; int sum; OutNode copy() { OutNode o = new OutNode(); o.num = num.copy(); o.sum = sum; return o; } }
    static final class OutLine { int[] b = new int[4]; int sum; OutLine copy() { OutLine o = new OutLine(); o.b = b.clone(); o.sum = sum; return o; } }
    static final class Held { Num num; boolean dirty; Held copy() { Held h = new Held(); h.num = num.copy(); h.dirty = dirty; return h; } }

    static final class World {
        List<OutLine> lines = new ArrayList<>();
        List<OutNode> nodes = new ArrayList<>();
        Num root;
        int epoch;
        long tally;
        boolean power = true;
        boolean allRight;
        int hold;
        LinkedList<Integer> order = new LinkedList<>();
        Map<Integer, Held> held = new HashMap<>();
        int[] fetched = new int[8];
        int[] stored = new int[8];
        int went;
        World copy() {
            World w = new World();
            for (OutLine l : lines) w.lines.add(l.copy());
            for (OutNode n : nodes) w.nodes.add(n.copy());
            w.root = root.copy(); w.epoch = epoch; w.tally = tally; w.power = power; w.hold = hold; w.allRight = allRight;
            w.order.addAll(order);
            for (Map.Entry<Integer, Held> e : held.entrySet()) w.held.put(e.getKey(), e.getValue().copy());
            w.fetched = fetched.clone(); w.stored = stored.clone(); w.went = went;
            return w;
        }
        int allFetched() { return Arrays.stream(fetched).sum(); }
        int allStored() { return Arrays.stream(stored).sum(); }
    }

    int fan, depth, hold, bits, key;
    int lineCount, nodeCount, limit;
    int[] levelFirst;
    int[] levelSize;
    int[] box = new int[256];
    long[] weights = new long[11];
    World world;
    List<Object> album = new ArrayList<>();
    List<Integer> albumOf = new ArrayList<>();
    List<Object[]> shots = new ArrayList<>();
    List<Integer> reel = new ArrayList<>();
    int refused, notFresh, worn, lastDepth;
    List<Integer> tape = new ArrayList<>();
    int faultPlace = -1;
    int[] status = new int[5];

    SlowLines() {
        for (int i = 0; i < 256; i++) box[i] = i;
        int[] seed = {1};
        for (int k = 255; k >= 1; k--) {
            int j = (int) (drawn(seed) % (k + 1));
            int t = box[k]; box[k] = box[j]; box[j] = t;
        }
        begin(2, 3, 4, 2, 0, new HashMap<>());
    }

    static long drawn(int[] seed) {
        long s = (seed[0] & 0xFFFFFFFFL) * 1103515245L + 12345L;
        seed[0] = (int) s;
        return (seed[0] >> 16) & 0x7FFF;
    }

    void begin(int f, int d, int c, int b, int k, Map<Integer, Integer> words) {
        fan = f; depth = d; hold = c; bits = b; key = k;
        limit = (int) Math.round(Math.pow(2, b));
        levelFirst = new int[depth + 2];
        levelSize = new int[depth + 2];
        nodeCount = 0;
        int size = 1;
        for (int i = 1; i <= depth; i++) { size *= fan; levelFirst[i] = nodeCount; levelSize[i] = size; nodeCount += size; }
        lineCount = size * fan;
        int[] seed = {key};
        for (int i = 0; i < 11; i++) weights[i] = 1 + 30 * drawn(seed);
        world = new World();
        world.hold = hold;
        world.root = new Num(fan);
        for (int i = 0; i < nodeCount; i++) {
            OutNode n = new OutNode();
            n.num = new Num(fan);
            world.nodes.add(n);
            n.sum = nodeSum(n.num, i, 0, 0);
        }
        for (int i = 0; i < lineCount; i++) {
            world.lines.add(new OutLine());
            cover(world, i, words.getOrDefault(i, 0), 0);
        }
        album.clear(); albumOf.clear(); shots.clear(); reel.clear();
        refused = 0; notFresh = 0; worn = 0; lastDepth = -1;
    }

    int keyByte(int i) { return (key >> (8 * i)) & 255; }

    long pad(int line, int version) {
        int p = 1024 * line + version;
        long pad = 0;
        for (int i = 3; i >= 0; i--) {
            int first = box[(p + keyByte(i)) % 256];
            int b = box[(first + p / 256 + keyByte((i + 1) % 4)) % 256];
            pad = pad * 256 + b;
        }
        return pad;
    }

    int lineSum(int[] b, int line, int v) {
        return (int) ((weights[0] * b[0] + weights[1] * b[1] + weights[2] * b[2] + weights[3] * b[3] + weights[4] * (1024L * line + v)) % 1000003L);
    }

    int nodeSum(Num n, int node, int v, int epoch) {
        long s = weights[5] * n.major;
        for (int k = 0; k < n.minors.length; k++) s += weights[6 + k] * n.minors[k];
        s += weights[10] * (63488L * epoch + 1024L * node + v);
        return (int) (s % 1000003L);
    }

    void cover(World w, int line, long word, int v) {
        long x = word ^ pad(line, v);
        OutLine l = w.lines.get(line);
        for (int i = 0; i < 4; i++) l.b[i] = (int) ((x >> (8 * i)) & 255);
        l.sum = lineSum(l.b, line, v);
    }

    long uncover(World w, int line, int v) {
        OutLine l = w.lines.get(line);
        long x = l.b[0] + 256L * l.b[1] + 65536L * l.b[2] + 16777216L * l.b[3];
        return x ^ pad(line, v);
    }

    int depthOf(int node) { int d = 1; while (node >= levelFirst[d] + levelSize[d]) d++; return d; }
    int parent(int node) { int d = depthOf(node); return d == 1 ? -1 : levelFirst[d - 1] + (node - levelFirst[d]) / fan; }
    int slot(int node) { return (node - levelFirst[depthOf(node)]) % fan; }
    int wayNode(int line, int d) { return levelFirst[d] + line / (lineCount / levelSize[d]); }
    boolean onWay(int node, int line) { return wayNode(line, depthOf(node)) == node; }
    int leaf(int line) { return wayNode(line, depth); }
    List<Integer> parts(int node) {
        List<Integer> l = new ArrayList<>();
        for (int n = 0; n < nodeCount; n++) if (parent(n) == node) l.add(n);
        return l;
    }
    List<Integer> leafLines(int leaf) {
        List<Integer> l = new ArrayList<>();
        for (int n = 0; n < lineCount; n++) if (leaf(n) == leaf) l.add(n);
        return l;
    }

    Num stands(World w, int node) {
        if (node == -1) return w.root;
        Held h = w.held.get(node);
        return h != null ? h.num : w.nodes.get(node).num;
    }
    int ver(Num n, int slot) { return limit * n.major + n.minors[slot]; }
    int nodeVersion(World w, int node) { return ver(stands(w, parent(node)), slot(node)); }
    int lineVersion(World w, int line) { return ver(stands(w, leaf(line)), line % fan); }
    boolean nodeRight(World w, int node, int v) { OutNode o = w.nodes.get(node); return o.sum == nodeSum(o.num, node, v, w.epoch); }
    boolean lineRight(World w, int line, int v) { OutLine l = w.lines.get(line); return l.sum == lineSum(l.b, line, v); }

    void fetchNode(World w, int node, int v) {
        if (!w.allRight && !nodeRight(w, node, v)) throw new No(depthOf(node));
        w.fetched[depthOf(node)]++;
    }
    void fetchLine(World w, int line, int v) {
        if (!w.allRight && !lineRight(w, line, v)) throw new No(depth + 1);
        w.fetched[depth + 1]++;
    }
    void storeNode(World w, int node, Num from) {
        OutNode o = w.nodes.get(node);
        o.num = from.copy();
        o.sum = nodeSum(o.num, node, nodeVersion(w, node), w.epoch);
        w.stored[depthOf(node)]++;
    }

    void goes(World w, int node) {
        w.order.remove((Integer) node);
        Held h = w.held.remove(node);
        w.went++;
        if (!h.dirty) return;
        int up = parent(node);
        Num n = stands(w, up);
        if (up != -1) w.held.get(up).dirty = true;
        if (n.minors[slot(node)] + 1 < limit) n.minors[slot(node)]++;
        else {
            Num old = n.copy();
            if (n.major + 1 > 63) throw new No(-1);
            n.major++;
            Arrays.fill(n.minors, 0);
            for (int part : parts(up)) {
                if (part == node) continue;
                if (w.held.containsKey(part)) {
                    storeNode(w, part, w.held.get(part).num);
                    w.held.get(part).dirty = false;
                } else {
                    fetchNode(w, part, ver(old, slot(part)));
                    storeNode(w, part, w.nodes.get(part).num);
                }
            }
        }
        storeNode(w, node, h.num);
    }

    boolean partHeld(World w, int node) {
        for (int part : parts(node)) if (w.held.containsKey(part)) return true;
        return false;
    }

    void reach(World w, int line) {
        for (int d = 1; d <= depth; d++) {
            int node = wayNode(line, d);
            if (w.held.containsKey(node)) { w.order.remove((Integer) node); w.order.addLast(node); continue; }
            if (w.held.size() == w.hold) {
                int victim = -1;
                for (int n : w.order) if (!onWay(n, line) && !partHeld(w, n)) { victim = n; break; }
                goes(w, victim);
            }
            fetchNode(w, node, nodeVersion(w, node));
            Held h = new Held();
            h.num = w.nodes.get(node).num.copy();
            w.held.put(node, h);
            w.order.addLast(node);
        }
    }

    void read(World w, int line) {
        if (!w.power) throw new No(0);
        reach(w, line);
        fetchLine(w, line, lineVersion(w, line));
    }

    void write(World w, int line, int word) {
        if (!w.power) throw new No(0);
        reach(w, line);
        Held h = w.held.get(leaf(line));
        long before = 0;
        for (int l : leafLines(leaf(line))) before += lineVersion(w, l);
        h.dirty = true;
        int s = line % fan;
        if (h.num.minors[s] + 1 < limit) h.num.minors[s]++;
        else {
            Num old = h.num.copy();
            if (h.num.major == 63) throw new No(-1);
            h.num.major++;
            Arrays.fill(h.num.minors, 0);
            for (int l : leafLines(leaf(line))) {
                if (l == line) continue;
                int ov = ver(old, l % fan);
                fetchLine(w, l, ov);
                cover(w, l, uncover(w, l, ov), lineVersion(w, l));
                w.stored[depth + 1]++;
            }
        }
        cover(w, line, word, lineVersion(w, line));
        w.stored[depth + 1]++;
        for (int l : leafLines(leaf(line))) w.tally += lineVersion(w, l);
        w.tally -= before;
    }

    void flush(World w) {
        if (!w.power) throw new No(0);
        while (!w.held.isEmpty()) {
            int victim = -1;
            for (int n : w.order) if (!partHeld(w, n)) { victim = n; break; }
            goes(w, victim);
        }
    }

    int found(World w, int line) {
        for (int v = 0; v <= 64 * limit - 1; v++) if (lineRight(w, line, v)) return v;
        return -1;
    }

    int mendsWithoutPower(World w) {
        int[] f = new int[lineCount];
        long all = 0;
        for (int i = 0; i < lineCount; i++) { f[i] = found(w, i); if (f[i] == -1) return 2; all += f[i]; }
        for (int i = 0; i < lineCount; i++) for (int j = 0; j < lineCount; j++) if (leaf(i) == leaf(j) && f[i] / limit != f[j] / limit) return 3;
        if (all != w.tally) return 4;
        return w.epoch == 14 ? 5 : 0;
    }

    void mend(World w) {
        if (w.power || mendsWithoutPower(w) != 0) throw new No(-2);
        int[] f = new int[lineCount];
        for (int i = 0; i < lineCount; i++) f[i] = found(w, i);
        w.epoch++;
        w.root = new Num(fan);
        for (int n = 0; n < nodeCount; n++) {
            OutNode o = w.nodes.get(n);
            o.num = new Num(fan);
            if (depthOf(n) == depth) for (int l : leafLines(n)) { o.num.major = f[l] / limit; o.num.minors[l % fan] = f[l] % limit; }
        }
        for (int n = 0; n < nodeCount; n++) w.nodes.get(n).sum = nodeSum(w.nodes.get(n).num, n, nodeVersion(w, n), w.epoch);
        w.power = true;
    }

    int where(World w, int line) {
        for (int d = 1; d <= depth; d++) {
            int n = wayNode(line, d);
            if (w.held.containsKey(n)) continue;
            if (!nodeRight(w, n, nodeVersion(w, n))) return d;
        }
        return lineRight(w, line, lineVersion(w, line)) ? 0 : depth + 1;
    }

    // ---- texts

    int[] text;
    int pos;

    int cur() { return pos < text.length ? text[pos] : -1; }
    void blanks() { while (cur() == 32) pos++; }
    void sign(char c) { blanks(); if (cur() != c) throw new Fault(1, pos); pos++; }
    int[] wordSpot = new int[1];
    String takeWord() {
        blanks();
        wordSpot[0] = pos;
        StringBuilder s = new StringBuilder();
        while (cur() >= 'a' && cur() <= 'z') { s.append((char) cur()); pos++; }
        return s.toString();
    }
    int number(long low, long high) {
        blanks();
        int start = pos;
        StringBuilder s = new StringBuilder();
        while (cur() >= '0' && cur() <= '9') { s.append((char) cur()); pos++; }
        if (s.length() == 0) throw new Fault(1, start);
        java.math.BigInteger v = new java.math.BigInteger(s.toString());
        if (v.compareTo(java.math.BigInteger.valueOf(low)) < 0 || v.compareTo(java.math.BigInteger.valueOf(high)) > 0) throw new Fault(2, start);
        return v.intValue();
    }

    void parseMachine() {
        int f = 2, d = 3, c = 4, b = 2, k = 0, clauses = 0;
        Map<Integer, Integer> words = new HashMap<>();
        for (blanks(); cur() != -1; blanks()) {
            String w = takeWord();
            if (!List.of("tree", "minor", "key", "word").contains(w)) throw new Fault(1, wordSpot[0]);
            clauses++;
            if (clauses > 60) throw new Fault(3, wordSpot[0]);
            if (w.equals("tree")) {
                f = number(2, 4);
                int top = 0;
                for (int t = 1; t <= 5; t++) if (Math.pow(f, t + 1) <= 64) top = t;
                d = number(1, top);
                c = number(d, 12);
            } else if (w.equals("minor")) b = number(1, 4);
            else if (w.equals("key")) k = number(0, 999999999);
            else { int l = number(0, 63); words.put(l, number(0, 99999999)); }
            sign(';');
        }
        begin(f, d, c, b, k, words);
    }

    static final class Step { String word; int[] n; List<Step> body; }

    List<Step> parseSteps(int open) {
        List<Step> out = new ArrayList<>();
        while (true) {
            blanks();
            if (cur() == -1) { if (open == 0) return out; throw new Fault(1, pos); }
            if (cur() == ']' && open > 0) return out;
            Step s = new Step();
            s.word = takeWord();
            int at = wordSpot[0];
            int l = lineCount - 1, n = nodeCount - 1;
            switch (s.word) {
                case "write": s.n = new int[] {number(0, l), number(0, 99999999)}; break;
                case "read": case "copy": s.n = new int[] {number(0, l)}; break;
                case "flush": case "loss": case "mend": case "shoot": break;
                case "flip": s.n = new int[] {number(0, l), number(0, 3), number(1, 255)}; break;
                case "bend": s.n = new int[] {number(0, n), number(0, fan + 1), number(1, 999)}; break;
                case "pick": s.n = new int[] {number(0, n)}; break;
                case "lay": s.n = new int[] {number(0, 7), number(0, l)}; break;
                case "graft": s.n = new int[] {number(0, 7), number(0, n)}; break;
                case "replay": s.n = new int[] {number(0, 2)}; break;
                case "again":
                    if (open == 6) throw new Fault(3, at);
                    s.n = new int[] {number(0, 60)};
                    sign('[');
                    s.body = parseSteps(open + 1);
                    sign(']');
                    break;
                default: throw new Fault(1, at);
            }
            sign(';');
            out.add(s);
        }
    }

    int begun, done;

    void run(List<Step> steps) {
        for (Step s : steps) {
            if (begun == 200) return;
            begun++;
            if (s.word.equals("again")) { for (int i = 0; i < s.n[0]; i++) run(s.body); continue; }
            World spare = world.copy();
            try {
                step(s);
                done++;
                if (s.word.equals("read") || s.word.equals("write")) { reel.add(s.n[0]); if (reel.size() > 24) reel.remove(0); }
            } catch (No no) {
                world = spare;
                refused++;
                if (no.depth > 0) { notFresh++; lastDepth = no.depth; }
                if (no.depth == -1) worn++;
            }
        }
    }

    void step(Step s) {
        World w = world;
        switch (s.word) {
            case "write": write(w, s.n[0], s.n[1]); break;
            case "read": read(w, s.n[0]); break;
            case "flush": flush(w); break;
            case "loss": if (!w.power) throw new No(-2); w.power = false; w.held.clear(); w.order.clear(); break;
            case "mend": mend(w); break;
            case "flip": w.lines.get(s.n[0]).b[s.n[1]] ^= s.n[2]; break;
            case "bend": {
                OutNode o = w.nodes.get(s.n[0]);
                if (s.n[1] == 0) o.num.major = (o.num.major + s.n[2]) % 64;
                else if (s.n[1] == fan + 1) o.sum = (o.sum + s.n[2]) % 1000003;
                else o.num.minors[s.n[1] - 1] = (o.num.minors[s.n[1] - 1] + s.n[2]) % limit;
                break;
            }
            case "copy": if (album.size() == 8) throw new No(-2); album.add(w.lines.get(s.n[0]).copy()); albumOf.add(s.n[0]); break;
            case "pick": if (album.size() == 8) throw new No(-2); album.add(w.nodes.get(s.n[0]).copy()); albumOf.add(s.n[0]); break;
            case "lay":
                if (s.n[0] >= album.size() || !(album.get(s.n[0]) instanceof OutLine)) throw new No(-2);
                w.lines.set(s.n[1], ((OutLine) album.get(s.n[0])).copy());
                break;
            case "graft":
                if (s.n[0] >= album.size() || !(album.get(s.n[0]) instanceof OutNode)) throw new No(-2);
                w.nodes.set(s.n[1], ((OutNode) album.get(s.n[0])).copy());
                break;
            case "shoot": {
                if (shots.size() == 3) throw new No(-2);
                World c = w.copy();
                shots.add(new Object[] {c.lines, c.nodes});
                break;
            }
            case "replay":
                if (s.n[0] >= shots.size()) throw new No(-2);
                replay(w, s.n[0]);
                break;
            default: throw new IllegalStateException();
        }
    }

    @SuppressWarnings("unchecked")
    void replay(World w, int z) {
        w.lines.clear();
        w.nodes.clear();
        for (OutLine l : (List<OutLine>) shots.get(z)[0]) w.lines.add(l.copy());
        for (OutNode n : (List<OutNode>) shots.get(z)[1]) w.nodes.add(n.copy());
    }

    int takeText(long n, boolean machine) {
        if (n < 0 || n > tape.size() || !machine && n > 150) throw new IllegalArgumentException();
        text = new int[(int) n];
        for (int i = 0; i < n; i++) text[i] = tape.get(i);
        tape.clear();
        pos = 0;
        faultPlace = -1;
        try {
            if (machine) { parseMachine(); return lineCount; }
            List<Step> steps = parseSteps(0);
            begun = 0; done = 0; refused = 0; notFresh = 0; worn = 0; lastDepth = -1;
            run(steps);
            return done;
        } catch (Fault f) {
            faultPlace = f.place;
            return f.kind - 10;
        }
    }

    // ---- calls

    long call(String name, long[] a) {
        try {
            return answer(name, a);
        } catch (NoSuchElementException e) { status[0]++; throw e;
        } catch (IllegalArgumentException e) { status[1]++; throw e;
        } catch (NullPointerException e) { status[2]++; throw e;
        } catch (IndexOutOfBoundsException e) { status[3]++; throw e;
        } catch (ClassCastException e) { status[4]++; throw e; }
    }

    void ln(long l) { if (l < 0 || l >= lineCount) throw new NoSuchElementException(); }
    void nd(long l) { if (l < 0 || l >= nodeCount) throw new NoSuchElementException(); }
    void in(long v, long low, long high) { if (v < low || v > high) throw new IllegalArgumentException(); }
    void ix(long v, long low, long high) { if (v < low || v > high) throw new IndexOutOfBoundsException(); }

    long answer(String name, long[] a) {
        int x = a.length > 0 ? (int) a[0] : 0;
        int y = a.length > 1 ? (int) a[1] : 0;
        int z = a.length > 2 ? (int) a[2] : 0;
        switch (name) {
            case "feed":
                if (tape.size() > 580) return -1;
                for (long n : a) for (int i = 3; i >= 0; i--) tape.add((int) ((n >> (8 * i)) & 255));
                return tape.size();
            case "machine": return takeText(x, true);
            case "work": return takeText(x, false);
            case "fault": return faultPlace;
            case "told": in(x, 0, 15); return new long[] {fan, depth, hold, bits, lineCount, nodeCount, world.epoch, world.tally,
                world.held.size(), world.power ? 1 : 0, refused, notFresh, worn, lastDepth, shots.size(), album.size()}[x];
            case "root": in(x, 0, fan); return x == 0 ? world.root.major : world.root.minors[x - 1];
            case "line": ln(x); in(y, 0, 6); return y < 4 ? world.lines.get(x).b[y] : y == 4 ? world.lines.get(x).sum
                : y == 5 ? lineVersion(world, x) : lineRight(world, x, lineVersion(world, x)) ? 1 : 0;
            case "word": ln(x); return !world.power ? -2 : where(world, x) != 0 ? -1 : uncover(world, x, lineVersion(world, x));
            case "sound": ln(x); return where(world, x) == 0 ? 1 : 0;
            case "where": ln(x); return where(world, x);
            case "found": ln(x); return found(world, x);
            case "node": {
                nd(x); in(y, 0, 7);
                Held h = world.held.get(x);
                OutNode o = world.nodes.get(x);
                return new long[] {o.num.major, o.sum, depthOf(x), parent(x), h != null ? 1 : 0, h != null && h.dirty ? 1 : 0,
                    nodeVersion(world, x), nodeRight(world, x, nodeVersion(world, x)) ? 1 : 0}[y];
            }
            case "minor": nd(x); ix(y, 0, fan - 1); return world.nodes.get(x).num.minors[y];
            case "held": {
                nd(x);
                if (!world.held.containsKey(x)) throw new NullPointerException();
                ix(y, 0, fan);
                Num n = world.held.get(x).num;
                return y == 0 ? n.major : n.minors[y - 1];
            }
            case "used": in(x, 0, Integer.MAX_VALUE); return x < world.order.size() ? world.order.get(x) : -1;
            case "above": ln(x); in(y, 1, depth); return wayNode(x, y);
            case "under": { nd(x); long m = 0; for (int l = 0; l < lineCount; l++) if (onWay(x, l)) m += 1L << l; return m; }
            case "dirty": { long m = 0; for (Map.Entry<Integer, Held> e : world.held.entrySet()) if (e.getValue().dirty) m |= 1L << e.getKey(); return m; }
            case "fetched": in(x, 1, depth + 1); return world.fetched[x];
            case "stored": in(x, 1, depth + 1); return world.stored[x];
            case "album": cp(x); in(y, 0, 2); {
                Object o = album.get(x);
                if (y == 1) return albumOf.get(x);
                if (o instanceof OutNode) return y == 0 ? 1 : ((OutNode) o).sum;
                return y == 0 ? 0 : ((OutLine) o).sum;
            }
            case "kept": cp(x); { OutLine l = (OutLine) album.get(x); ix(y, 0, 3); return l.b[y]; }
            case "laid": cp(x); {
                World w = world.copy();
                if (album.get(x) instanceof OutNode) { nd(y); w.nodes.set(y, (OutNode) album.get(x)); return nodeRight(w, y, nodeVersion(world, y)) ? 1 : 0; }
                ln(y); w.lines.set(y, (OutLine) album.get(x)); return lineRight(w, y, lineVersion(w, y)) ? 1 : 0;
            }
            case "mends": return world.power ? 1 : mendsWithoutPower(world);
            case "stale": {
                TreeSet<Integer> s = new TreeSet<>();
                for (int l = 0; l < lineCount; l++) if (found(world, l) != ver(world.nodes.get(leaf(l)).num, l % fan)) s.add(leaf(l));
                return s.size();
            }
            case "left": { ln(x); int n = 0; Num m = stands(world, leaf(x)).copy(); while (m.minors[x % fan] + 1 < limit) { m.minors[x % fan]++; n++; } return n; }
            case "wear": {
                ln(x);
                int n = 0;
                Num m = stands(world, leaf(x)).copy();
                while (true) {
                    if (m.minors[x % fan] + 1 < limit) m.minors[x % fan]++;
                    else if (m.major == 63) return n;
                    else { m.major++; m.minors[x % fan] = 0; }
                    n++;
                }
            }
            case "costs": {
                ln(x); in(y, 0, 1); in(z, 0, 2);
                World w = world.copy();
                try { if (y == 0) read(w, x); else write(w, x, 0); } catch (No no) { return -1; }
                return new int[] {w.allFetched() - world.allFetched(), w.allStored() - world.allStored(), w.went - world.went}[z];
            }
            case "flushes": {
                in(x, 0, 2);
                World w = world.copy();
                try { flush(w); } catch (No no) { return -1; }
                return new int[] {w.allFetched() - world.allFetched(), w.allStored() - world.allStored(), w.went - world.went}[x];
            }
            case "after": {
                ln(x); in(y, 1, 99); in(z, 0, 2);
                World w = world.copy();
                int ok = 0;
                for (int i = 0; i < y; i++) {
                    World spare = w.copy();
                    try { write(w, x, 0); ok++; } catch (No no) { w = spare; }
                }
                return new long[] {ok, w.tally, w.allStored() - world.allStored()}[z];
            }
            case "losses": in(x, 0, 1); return losses(world.copy(), x);
            case "replayed": {
                if (x < 0 || x >= shots.size()) throw new NoSuchElementException();
                in(y, 0, 1);
                World w = world.copy();
                replay(w, x);
                if (y == 1) return losses(w, 0);
                int n = 0;
                for (int l = 0; l < lineCount; l++) if (where(w, l) == 0) n++;
                return n;
            }
            case "forgeries": {
                ln(x);
                World w = world.copy();
                int n = 0;
                for (int i = 0; i < 4; i++) {
                    int old = w.lines.get(x).b[i];
                    for (int v = 0; v < 256; v++) { w.lines.get(x).b[i] = v; if (v != old && lineRight(w, x, lineVersion(w, x))) n++; }
                    w.lines.get(x).b[i] = old;
                }
                return n;
            }
            case "splices": {
                int n = 0;
                for (int p = 0; p < lineCount; p++) for (int q = 0; q < lineCount; q++) if (p != q) {
                    OutLine l = world.lines.get(p);
                    if (lineSum(l.b, q, lineVersion(world, q)) == l.sum) n++;
                }
                return n;
            }
            case "tour": tour(a[0]); return best;
            case "stop": tour(a[0]); in(y, 0, Integer.MAX_VALUE); return best < 0 || y >= bestRow.size() ? -1 : bestRow.get(y);
            case "reel": in(x, 0, Integer.MAX_VALUE); return x < reel.size() ? reel.get(x) : -1;
            case "reelBy": in(x, depth, 12); in(y, 0, 1); return reelBy(x)[y];
            case "least": in(x, 0, Integer.MAX_VALUE); for (int c = depth; c <= 12; c++) if (reelBy(c)[0] <= x) return c; return -1;
            case "pad": ln(x); in(y, 0, 1023); return (int) pad(x, y);
            case "weight": in(x, 0, 10); return weights[x];
            case "box": in(x, 0, 255); return box[x];
            case "print": {
                long h = 0;
                for (OutLine l : world.lines) { for (int b : l.b) h = h * 31 + b; h = h * 31 + l.sum; }
                for (OutNode n : world.nodes) { h = h * 31 + n.num.major; for (int m : n.num.minors) h = h * 31 + m; h = h * 31 + n.sum; }
                return h;
            }
            case "status": return x < 0 || x > 4 ? -1 : status[x];
            case "count": return tape.size();
            default: throw new IllegalStateException(name);
        }
    }

    void cp(long k) { if (k < 0 || k >= album.size()) throw new NoSuchElementException(); }

    int losses(World w, int what) {
        w = w.copy();
        w.power = false; w.held.clear(); w.order.clear();
        int m = mendsWithoutPower(w);
        if (what == 0 || m != 0) return what == 0 ? m : 0;
        World v = w.copy();
        mend(v);
        int n = 0;
        for (int i = 0; i < nodeCount; i++) if (!v.nodes.get(i).num.same(w.nodes.get(i).num)) n++;
        return n;
    }

    int[] reelBy(int c) {
        LinkedList<Integer> order = new LinkedList<>();
        int fetched = 0, went = 0;
        for (int line : reel) {
            for (int d = 1; d <= depth; d++) {
                int n = wayNode(line, d);
                if (order.remove((Integer) n)) { order.addLast(n); continue; }
                if (order.size() == c) {
                    for (int v : order) {
                        boolean free = !onWay(v, line);
                        for (int p : parts(v)) if (order.contains(p)) free = false;
                        if (free) { order.remove((Integer) v); went++; break; }
                    }
                }
                fetched++;
                order.addLast(n);
            }
        }
        return new int[] {fetched, went};
    }

    int best;
    List<Integer> bestRow;

    void tour(long lines) {
        List<Integer> l = new ArrayList<>();
        for (int i = 0; i < 64; i++) if ((lines >> i & 1) != 0) { if (i >= lineCount) throw new IllegalArgumentException(); l.add(i); }
        if (l.size() > 5) throw new IllegalArgumentException();
        best = -1;
        bestRow = null;
        rows(l, new ArrayList<>());
    }

    void rows(List<Integer> rest, List<Integer> row) {
        if (rest.isEmpty()) {
            World w = world.copy();
            try { for (int line : row) read(w, line); } catch (No no) { return; }
            int cost = w.allFetched() - world.allFetched();
            if (best == -1 || cost < best) { best = cost; bestRow = new ArrayList<>(row); }
            return;
        }
        for (int i = 0; i < rest.size(); i++) {
            List<Integer> r = new ArrayList<>(rest);
            List<Integer> q = new ArrayList<>(row);
            q.add(r.remove(i));
            rows(r, q);
        }
    }
}
