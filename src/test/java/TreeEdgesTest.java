/** What STEPS do to the tree: each sentence of the Terms that names a boundary, by itself. */
public final class TreeEdgesTest {
    public static void main(String[] args) {
        shapes();
        atFirst();
        weightsAndBox();
        pads();
        lineSums();
        nodeSums();
        covers();
        reachHeld();
        reachNotFull();
        reachFull();
        goneHasNoPart();
        fetchedIsRight();
        fetchedBehindTheGone();
        cleanGoes();
        dirtyGoes();
        rootOverflows();
        nodeOverflows();
        overflowFetchesRight();
        overflowByVersionAhead();
        leafOverflows();
        leafOverflowFetchesRight();
        tally();
        flushes();
        flushInOrder();
        refusedChangesNothing();
        withoutPower();
        firstNotFresh();
        leafWorn();
        nodeWorn();
        rootWorn();
        wornAheadOfFresh();
        steps200();
        steps200Refused();
        steps200Again();
        losses();
        mends();
        mendsOfMajors();
        mendRefused();
        epochs();
        Check.end("TreeEdgesTest");
    }

    static void shapes() {
        Check.about("Terms: LINES: F to the power of D and 1; NODES: at DEPTH 1 F of them, at each next DEPTH F times as many");
        int[][] trees = {{2, 1}, {2, 2}, {2, 3}, {2, 4}, {2, 5}, {3, 1}, {3, 2}, {4, 1}, {4, 2}};
        int[] lines = {4, 8, 16, 32, 64, 9, 27, 16, 64};
        int[] nodes = {2, 6, 14, 30, 62, 3, 12, 4, 20};
        for (int i = 0; i < trees.length; i++) {
            int fan = trees[i][0];
            int depth = trees[i][1];
            FreshLines x = Check.made("tree " + fan + " " + depth + " 5;");
            Check.due("lines", lines[i], x.told(4));
            Check.due("nodes", nodes[i], x.told(5));
            int first = 0;
            int wide = fan;
            for (int d = 1; d <= depth; d++) {
                Check.due("depth of the first", d, x.node(first, 2));
                Check.due("depth of the last", d, x.node(first + wide - 1, 2));
                Check.due("the first is above line 0", first, x.above(0, d));
                Check.due("the last is above the last line", first + wide - 1, x.above(lines[i] - 1, d));
                Check.due("the first lies below", d == 1 ? -1 : x.above(0, d - 1), x.node(first, 3));
                Check.due("the last lies below", d == 1 ? -1 : first - 1, x.node(first + wide - 1, 3));
                Check.due("the last of the first's parts", d == 1 ? -1 : x.above(0, d - 1), x.node(first + fan - 1, 3));
                if (d > 1) {
                    Check.due("the next is a part of the next", x.above(0, d - 1) + 1, x.node(first + fan, 3));
                }
                first += wide;
                wide *= fan;
            }
            Check.due("a leaf has so many lines", fan, Long.bitCount(x.under(nodes[i] - 1)));
        }
    }

    static void atFirst() {
        Check.about("Terms: at first all MAJORS, minors, and the TALLY are 0, each LINE is COVERED with its word by 0, each NODE has the SUM by 0; no NODE is HELD; there is power");
        FreshLines x = Check.made("tree 3 1 2;key 55;word 8 1234;");
        int[] weights = Sums.weights(55);
        for (int line = 0; line < 9; line++) {
            int cover = Sums.pad(55, line, 0) ^ (line == 8 ? 1234 : 0);
            int[] bytes = {cover & 255, cover >>> 8 & 255, cover >>> 16 & 255, cover >>> 24};
            for (int i = 0; i < 4; i++) {
                Check.due("byte " + i + " of " + line, bytes[i], x.line(line, i));
            }
            Check.due("sum of " + line, Sums.lineSum(weights, bytes, line, 0), x.line(line, 4));
            Check.due("version", 0, x.line(line, 5));
        }
        for (int node = 0; node < 3; node++) {
            Check.due("sum of node " + node, Sums.nodeSum(weights, new int[4], node, 0, 0), x.node(node, 1));
            Check.due("major", 0, x.node(node, 0));
            for (int k = 0; k < 3; k++) {
                Check.due("minor", 0, x.minor(node, k));
            }
            Check.due("held", 0, x.node(node, 4));
        }
        for (int j = 0; j <= 3; j++) {
            Check.due("root", 0, x.root(j));
        }
        Check.due("epoch", 0, x.told(6));
        Check.due("tally", 0, x.told(7));
        Check.due("held", 0, x.told(8));
        Check.due("power", 1, x.told(9));
    }

    static void weightsAndBox() {
        Check.about("Terms: BOX: for k from 255 down to 1, that at k and that at what is left of DRAWN by k and 1 change places");
        FreshLines x = Check.made("key 3;");
        int[] box = Sums.box();
        for (int place = 0; place < 256; place++) {
            Check.due("box " + place, box[place], x.box(place));
        }
        Check.about("Terms: WEIGHTS 0 to 10, in order (the SEED is the KEY): 1 more than 30 times DRAWN");
        int[] keys = {0, 1, 999_999_999, 123_456_789};
        for (int key : keys) {
            FreshLines y = Check.made("key " + key + ";");
            for (int k = 0; k <= 10; k++) {
                Check.due("weight " + k + " of key " + key, Sums.weights(key)[k], y.weight(k));
            }
        }
    }

    static void pads() {
        Check.about("Terms: PAD: all places by 256, what is left; byte 0 behind 3");
        // 939524096 and less: byte 3 of the key is 55, others are 255 or 0, so that places run over.
        int[] keys = {0, 255, 65_535, 16_777_215, 939_524_095, 939_523_840, 922_746_880};
        for (int key : keys) {
            FreshLines x = Check.made("tree 4 2 2;key " + key + ";");
            for (int version : new int[] {0, 1, 254, 255, 256, 257, 511, 512, 1022, 1023}) {
                Check.due("pad of 0 by " + version + ", key " + key, Sums.pad(key, 0, version), x.pad(0, version));
                Check.due("pad of 63 by " + version + ", key " + key, Sums.pad(key, 63, version), x.pad(63, version));
            }
        }
    }

    static void lineSums() {
        Check.about("Terms: SUM of a LINE by v: what is left by 1,000,003");
        FreshLines x = Check.made("tree 4 2 2;minor 4;key 999999999;", "again 20[write 63 99999999;];");
        int[] weights = Sums.weights(999_999_999);
        for (int line = 0; line < 64; line++) {
            int version = line == 63 ? 20 : line >= 60 ? 16 : 0;
            Check.due("version of " + line, version, x.line(line, 5));
            Check.due("sum of " + line, Sums.lineSum(weights, Sums.bytesOf(x, line), line, version), x.line(line, 4));
        }
    }

    static void nodeSums() {
        Check.about("Terms: SUM of NODE n by v: WEIGHT 5 times its MAJOR, WEIGHTS 6 on times its minors, WEIGHT 10 times (63,488 times EPOCH, 1,024 times n, and v)");
        FreshLines x = Check.made("tree 4 2 3;minor 2;key 77;", "again 3[write 60 1;write 61 1;];write 62 1;write 60 1;write 62 1;flush;", "write 62 1;write 63 1;write 63 1;flush;loss;mend;", "again 13[loss;mend;];write 63 2;flush;");
        int[] weights = Sums.weights(77);
        // Leaf 19: (0; 3 3 1 0), then the fourth write of 60 overflows: (1; 0 0 0 0), and then 62 twice, 63 three times.
        Check.due("epoch", 14, x.told(6));
        int[] leaf = {1, 0, 0, 2, 3};
        Check.due("major", 1, x.node(19, 0));
        for (int k = 0; k < 4; k++) {
            Check.due("minor " + k, leaf[k + 1], x.minor(19, k));
        }
        Check.due("version", 1, x.node(19, 6));
        Check.due("sum of the last node, of the last epoch", Sums.nodeSum(weights, leaf, 19, 1, 14), x.node(19, 1));
        Check.due("sum of one above", Sums.nodeSum(weights, new int[] {0, 0, 0, 0, 1}, 3, 1, 14), x.node(3, 1));
        Check.due("sum of another", Sums.nodeSum(weights, new int[5], 4, 0, 14), x.node(4, 1));
    }

    static void covers() {
        Check.about("Terms: to COVER a LINE: byte i is that of the word, where bits are unlike that of PAD 1");
        FreshLines x = Check.made("tree 2 1 2;key 5;", "write 3 99999999;");
        int cover = 99_999_999 ^ Sums.pad(5, 3, 1);
        for (int i = 0; i < 4; i++) {
            Check.due("byte " + i, cover >>> 8 * i & 255, x.line(3, i));
        }
        Check.work(x, "write 3 0;");
        Check.due("by the next version", Sums.pad(5, 3, 2) & 255, x.line(3, 0));
    }

    private static String order(FreshLines x) {
        StringBuilder s = new StringBuilder();
        for (int k = 0; k < x.told(8); k++) {
            s.append(k == 0 ? "" : " ").append(x.used(k));
        }
        return s.toString();
    }

    static void reachHeld() {
        Check.about("Terms: to REACH: if it is HELD, it is the one used last");
        FreshLines x = Check.made("tree 2 2 4;", "read 0;read 7;");
        Check.due("order", "0 2 1 5", order(x));
        Check.work(x, "read 1;");
        Check.due("0 and 2 again", "1 5 0 2", order(x));
        Check.due("not fetched again", 2, x.fetched(1));
        Check.due("nor the leaf", 2, x.fetched(2));
        Check.due("but the line", 3, x.fetched(3));
        Check.work(x, "read 7;write 6 1;");
        Check.due("by a write too", "0 2 1 5", order(x));
    }

    static void reachNotFull() {
        Check.about("Terms: if C are HELD, the one of these GOES (none, if there are fewer)");
        FreshLines x = Check.made("tree 2 2 5;", "read 0;read 4;");
        Check.due("four of five", "0 2 1 4", order(x));
        Check.due("a fifth: none goes", 0, x.costs(2, 0, 2));
        Check.work(x, "read 2;");
        Check.due("five of five", "2 1 4 0 3", order(x));
        Check.due("a sixth: one goes", 1, x.costs(6, 0, 2));
        Check.work(x, "read 6;");
        Check.due("five are held", "4 0 3 1 5", order(x));
        FreshLines y = Check.made("tree 2 5 12;", "read 0;read 63;read 2;");
        Check.due("eleven of twelve", 11, y.told(8));
        Check.due("a twelfth: none goes", 0, y.costs(61, 0, 2));
        Check.work(y, "read 61;");
        Check.due("twelve of twelve", 12, y.told(8));
        Check.due("two more put out two", 2, y.costs(4, 0, 2));
        FreshLines z = Check.made("tree 2 1 1;", "read 0;");
        Check.due("one of one", 1, z.costs(2, 0, 2));
        Check.due("itself stays", 0, z.costs(1, 0, 2));
    }

    static void reachFull() {
        Check.about("Terms: of these GOES the one that was used longest ago");
        FreshLines x = Check.made("tree 4 1 3;", "read 0;read 4;read 8;read 0;");
        Check.due("order", "1 2 0", order(x));
        Check.work(x, "read 12;");
        Check.due("1 went", "2 0 3", order(x));
        Check.work(x, "read 4;");
        Check.due("then 2", "0 3 1", order(x));
        FreshLines y = Check.made("tree 2 3 3;", "read 0;read 15;");
        Check.due("all of a way for all of another", "1 5 13", order(y));
        Check.due("three at a time", 3, y.costs(0, 0, 2));
    }

    static void goneHasNoPart() {
        Check.about("Terms: those that are not on the way and have no PART that is HELD");
        FreshLines x = Check.made("tree 2 2 3;", "read 0;");
        Check.due("order", "0 2", order(x));
        Check.work(x, "read 4;");
        Check.due("1 found room; for 4 goes 2: 0 was used longer ago, but 2 is a part of it", "0 1 4", order(x));
        FreshLines y = Check.made("tree 2 3 4;", "read 0;read 15;");
        // Node 1 finds room; for 5 goes the leaf 6, then for 13 node 2, as it has no part any more; 0 stays.
        Check.due("from below", "0 1 5 13", order(y));
        Check.work(y, "read 8;");
        Check.due("for 4 goes 0, for its leaf 13; 5, without a part now, stays", "5 1 4 10", order(y));
    }

    static void fetchedIsRight() {
        Check.about("Terms: it has to be RIGHT by its VERSION by the one above it (its copy, or the ROOT)");
        FreshLines x = Check.made("tree 2 2 3;", "read 0;bend 0 2 1;bend 0 3 7;");
        Check.due("by the copy: what lies outside of 0 counts for nothing", 1, Check.work(x, "read 2;"));
        Check.due("0 itself, outside, is not right", 0, x.node(0, 7));
        FreshLines y = Check.made("tree 2 2 2;", "bend 0 2 1;");
        Check.due("a bent minor, by the root", 0, Check.work(y, "read 4;read 0;") - 1);
        Check.due("at its depth", 1, y.told(13));
        FreshLines z = Check.made("tree 2 2 2;", "pick 2;write 0 1;flush;graft 0 2;");
        Check.due("an old node, right by an old version", 0, Check.work(z, "read 0;"));
        Check.due("at its depth", 2, z.told(13));
        Check.due("its neighbour is right", 1, Check.work(z, "read 2;"));
        Check.about("Terms: it is HELD then, not DIRTY, the one used last");
        FreshLines w = Check.made("tree 2 2 2;", "write 0 1;");
        Check.due("the leaf alone is dirty", 4, w.dirty());
        Check.work(w, "read 4;");
        Check.due("none of the new is dirty", 0, w.dirty());
    }

    static void fetchedBehindTheGone() {
        Check.about("Terms: else, if C are HELD, the one GOES; then it is FETCHED");
        FreshLines x = Check.made("tree 2 1 1;minor 1;", "write 0 1;flush;write 0 1;");
        Check.due("held", "0", order(x));
        Check.due("root", 1, x.root(1));
        // Node 0 goes, the root overflows, node 1 is fetched, stored by version 2, and then fetched by that.
        Check.due("read", 1, Check.work(x, "read 2;"));
        Check.due("fetched", 4, x.fetched(1));
        Check.due("stored", 3, x.stored(1));
        Check.due("root", 1, x.root(0));
        Check.due("version of 1", 2, x.node(1, 6));
        Check.due("right by that", 1, x.node(1, 7));
    }

    static void cleanGoes() {
        Check.about("Terms: a NODE that GOES is not HELD any more; if it was DIRTY ..");
        FreshLines x = Check.made("tree 2 2 2;", "read 0;");
        long print = x.print();
        Check.work(x, "flush;");
        Check.due("held", 0, x.told(8));
        Check.due("a clean one is not stored", 0, x.stored(1) + x.stored(2));
        Check.due("nor counted above", 0, x.root(1));
        Check.due("nothing changes outside", print, x.print());
    }

    static void dirtyGoes() {
        Check.about("Terms: if it was DIRTY, its minor in the one above (the copy, DIRTY then, or the ROOT) is 1 more; and then it is STORED itself by its copy");
        FreshLines x = Check.made("tree 2 3 3;minor 2;key 8;", "write 0 1;write 1 1;");
        Check.due("dirty", 1L << 6, x.dirty());
        Check.work(x, "read 2;");
        Check.due("the leaf went: node 2 is dirty", 1L << 2, x.dirty());
        Check.due("its minor in the copy", 1, x.held(2, 1));
        Check.due("not outside", 0, x.minor(2, 0));
        Check.due("the other minor", 0, x.held(2, 2));
        Check.due("the leaf's outside", 1, x.minor(6, 1));
        Check.due("its sum by its version then", Sums.nodeSum(Sums.weights(8), new int[] {0, 1, 1}, 6, 1, 0), x.node(6, 1));
        Check.due("nothing of node 0", 0, x.held(0, 1));
        Check.work(x, "read 4;");
        Check.due("then node 2 went: node 0 is dirty", 1, x.dirty());
        Check.due("its minor", 1, x.held(0, 1));
        Check.work(x, "read 8;");
        Check.due("and node 0 went", 0, x.dirty());
        Check.due("root", 1, x.root(1));
        Check.due("the other minor of the root", 0, x.root(2));
        Check.due("line 0 is sound", true, x.sound(0));
        Check.due("stored once at each depth", 3, x.stored(1) + x.stored(2) + x.stored(3));
        FreshLines y = Check.made("tree 2 2 4;", "write 0 1;write 2 1;write 4 1;");
        Check.due("2 went for 4: 0 is dirty, 3 and 4 stay so", 1L | 1L << 3 | 1L << 4, y.dirty());
        Check.work(y, "write 6 1;");
        Check.due("3 went for 5: 4 stays", 1L | 1L << 4 | 1L << 5, y.dirty());
    }

    static void rootOverflows() {
        Check.about("Terms: or, were that LIMIT, the one above OVERFLOWS (the ROOT)");
        for (int bits = 1; bits <= 4; bits++) {
            int limit = 1 << bits;
            FreshLines x = Check.made("tree 3 1 3;minor " + bits + ";", "write 3 1;flush;again " + (limit - 1) + "[write 0 1;flush;];");
            Check.due("limit less 1: not yet", "0 " + (limit - 1) + " 1 0", x.root(0) + " " + x.root(1) + " " + x.root(2) + " " + x.root(3));
            int fetched = x.fetched(1);
            int stored = x.stored(1);
            Check.work(x, "read 6;write 0 1;flush;");
            Check.due("major 1, minors 0", "1 0 0 0", x.root(0) + " " + x.root(1) + " " + x.root(2) + " " + x.root(3));
            // By the flush 2 goes first, clean; so it is not held any more when 0 goes.
            Check.due("fetched: 2 and 0 by the way, 1 and 2 by the overflow", fetched + 4, x.fetched(1));
            Check.due("stored: 1, 2, and 0", stored + 3, x.stored(1));
            for (int node = 0; node < 3; node++) {
                Check.due("version of " + node, limit, x.node(node, 6));
                Check.due("right " + node, 1, x.node(node, 7));
            }
        }
    }

    static void nodeOverflows() {
        Check.about("Terms: each other PART is, if it is HELD, STORED by its copy, and not DIRTY any more, else FETCHED and STORED as it is");
        FreshLines x = Check.made("tree 2 2 4;minor 1;", "write 0 1;flush;write 0 1;write 2 1;");
        Check.due("order", "2 0 3", order(x));
        Check.due("dirty", 4 + 8, x.dirty());
        Check.work(x, "read 4;");
        // For leaf 4 goes leaf 2; node 0 overflows, and leaf 3 is stored by its copy.
        Check.due("order then", "0 3 1 4", order(x));
        Check.due("node 0 is dirty, leaf 3 not any more", 1, x.dirty());
        Check.due("copy of node 0", "1 0 0", x.held(0, 0) + " " + x.held(0, 1) + " " + x.held(0, 2));
        Check.due("leaf 3 outside, by its copy", 1, x.minor(3, 0));
        Check.due("right by its new version", "2 1", x.node(3, 6) + " " + x.node(3, 7));
        Check.due("stored: 2, 3, 2", 3, x.stored(2));
        Check.due("fetched: 2, 2, 3, 4", 4, x.fetched(2));
        Check.due("above", 1, x.stored(1));
        Check.work(x, "flush;");
        Check.due("leaf 3 went clean: it is not counted above", 0, x.minor(0, 1));
        Check.due("nor stored again", 3, x.stored(2));
        Check.due("all sound", true, x.sound(0) && x.sound(2) && x.sound(4));
        FreshLines y = Check.made("tree 4 2 4;minor 1;", "write 0 1;flush;write 0 1;flush;");
        Check.due("others that are not held", "3 4", (y.fetched(2) - 2) + " " + (y.stored(2) - 1));
        Check.due("right by 2", 1, y.node(7, 7));
        FreshLines z = Check.made("tree 2 2 4;minor 1;", "write 0 1;flush;read 2;write 0 1;read 4;");
        // Held: 3, 0, 2 and then 1; for 4 goes 3, clean; so 2 goes by the next one.
        Check.due("order", "0 2 1 4", order(z));
        Check.work(z, "read 2;");
        Check.due("not dirty: held and clean ones are stored too", 1 + 1 + 1, z.stored(2));
    }

    static void overflowFetchesRight() {
        Check.about("Terms: else FETCHED, RIGHT by its VERSION ahead of that (else not FRESH)");
        FreshLines x = Check.made("tree 3 2 2;minor 1;", "write 0 1;flush;write 0 1;bend 5 4 1;");
        Check.due("node 5 is a part of node 0, and bent", 0, Check.work(x, "flush;"));
        Check.due("its depth", 2, x.told(13));
        Check.work(x, "bend 5 4 999;bend 5 4 999;");
        Check.due("still", 0, Check.work(x, "flush;"));
        FreshLines y = Check.made("tree 3 2 2;minor 1;", "write 0 1;flush;write 0 1;bend 6 4 1;");
        Check.due("node 6 is not", 1, Check.work(y, "flush;"));
        FreshLines z = Check.made("tree 3 2 3;minor 1;", "write 0 1;flush;write 0 1;read 6;bend 5 4 1;");
        Check.due("node 5 is held: what lies outside counts for nothing", 1, Check.work(z, "flush;"));
        Check.due("and is stored anew", 1, z.node(5, 7));
    }

    static void overflowByVersionAhead() {
        Check.about("Terms: RIGHT by its VERSION ahead of that, and STORED as it is");
        FreshLines x = Check.made("tree 3 1 1;minor 2;", "again 3[write 3 1;flush;];again 2[write 6 1;flush;];again 3[write 0 1;flush;];");
        Check.due("root", "0 3 3 2", x.root(0) + " " + x.root(1) + " " + x.root(2) + " " + x.root(3));
        Check.due("by 3 and by 2 they are right", 2, Check.work(x, "write 0 1;flush;"));
        Check.due("root", "1 0 0 0", x.root(0) + " " + x.root(1) + " " + x.root(2) + " " + x.root(3));
        Check.due("as they were", "0 3 0 0", x.node(1, 0) + " " + x.minor(1, 0) + " " + x.minor(1, 1) + " " + x.minor(1, 2));
        Check.due("by version 4", "4 1", x.node(2, 6) + " " + x.node(2, 7));
    }

    static void leafOverflows() {
        Check.about("Terms: write: its minor is 1 more, or, were that LIMIT, that OVERFLOWS; each other LINE is FETCHED and STORED: COVERED with the same word by its VERSION now");
        for (int bits = 1; bits <= 4; bits++) {
            int limit = 1 << bits;
            FreshLines x = Check.made("tree 3 1 1;minor " + bits + ";key 4;word 1 77;word 2 99999999;", "write 1 78;again " + (limit - 1) + "[write 0 5;];");
            Check.due("limit less 1: not yet", "0 " + (limit - 1) + " 1 0", x.held(0, 0) + " " + x.held(0, 1) + " " + x.held(0, 2) + " " + x.held(0, 3));
            Check.due("no line fetched", 0, x.fetched(2));
            Check.due("stored", limit, x.stored(2));
            Check.work(x, "write 0 6;");
            Check.due("major 1, minors 0", "1 0 0 0", x.held(0, 0) + " " + x.held(0, 1) + " " + x.held(0, 2) + " " + x.held(0, 3));
            Check.due("the others fetched", 2, x.fetched(2));
            Check.due("all three stored", limit + 3, x.stored(2));
            Check.due("words", "6 78 99999999", x.word(0) + " " + x.word(1) + " " + x.word(2));
            for (int line = 0; line < 3; line++) {
                Check.due("version", limit, x.line(line, 5));
                Check.due("covered by it", (int) x.word(line) ^ Sums.pad(4, line, limit), x.line(line, 0) | x.line(line, 1) << 8 | x.line(line, 2) << 16 | x.line(line, 3) << 24);
            }
            Check.due("other leaves stay", 0, x.line(3, 5));
        }
    }

    static void leafOverflowFetchesRight() {
        Check.about("Terms: each other LINE is FETCHED, RIGHT by its VERSION ahead of that");
        FreshLines x = Check.made("tree 3 2 2;minor 1;", "write 0 1;flip 2 3 1;");
        Check.due("line 2 is bad", 0, Check.work(x, "write 0 2;"));
        Check.due("at the depth of lines", 3, x.told(13));
        Check.due("a write of the bad one asks nothing of it", 1, Check.work(x, "write 2 5;"));
        FreshLines y = Check.made("tree 3 2 2;minor 1;", "write 2 9;flip 2 3 1;");
        Check.due("a write by which it overflows itself neither", 1, Check.work(y, "write 2 5;"));
        Check.due("its word", 5, y.word(2));
        FreshLines z = Check.made("tree 3 2 2;minor 1;", "write 0 1;flip 3 3 1;");
        Check.due("a line of another leaf", 1, Check.work(z, "write 0 2;"));
    }

    static void tally() {
        Check.about("Terms: TALLY: each write adds by how much VERSIONS of LINES by the copy are more");
        FreshLines x = Check.made("tree 3 1 1;minor 2;", "write 0 1;write 0 1;write 0 1;write 1 1;");
        Check.due("1 each", 4, x.told(7));
        Check.work(x, "write 0 1;");
        Check.due("3, 1, 0 have become 4, 4, 4", 12, x.told(7));
        Check.work(x, "write 2 1;write 3 1;");
        Check.due("1 each", 14, x.told(7));
        Check.work(x, "read 0;flush;mend;");
        Check.due("others add nothing", 14, x.told(7));
        Check.work(x, "loss;mend;");
        Check.due("nor do loss and mend", "1 14", x.told(6) + " " + x.told(7));
    }

    static void flushes() {
        Check.about("Terms: flush: as long as any is HELD");
        FreshLines x = Check.made("tree 2 5 12;");
        Check.due("none is: it is done", 1, Check.work(x, "flush;"));
        Check.work(x, "read 0;read 63;read 32;");
        Check.due("twelve", 12, x.told(8));
        Check.due("is done", 1, Check.work(x, "flush;"));
        Check.due("none", 0, x.told(8));
        Check.due("nothing was stored", 0, x.stored(5));
        Check.due("not in the reel", -1, x.reel(3));
    }

    static void flushInOrder() {
        Check.about("Terms: flush: the one GOES that was used longest ago of those that have no PART that is HELD");
        // The root has (0; 0 1). If 0 goes first, it has (0; 1 1), and overflows by 1, when 0 is not held.
        FreshLines x = Check.made("tree 2 1 2;minor 1;", "write 2 1;flush;write 0 1;write 2 1;flush;");
        Check.due("0 first: 0 fetched by the overflow", "4 4", x.fetched(1) + " " + x.stored(1));
        FreshLines y = Check.made("tree 2 1 2;minor 1;", "write 2 1;flush;write 2 1;write 0 1;flush;");
        Check.due("1 first: 0 was held, and then clean", "3 3", y.fetched(1) + " " + y.stored(1));
        FreshLines z = Check.made("tree 2 2 2;minor 1;", "write 0 1;flush;");
        Check.due("0 was used longest ago, but 2 goes first: both are stored, once", "1 1 1", z.stored(1) + " " + z.stored(2) + " " + z.root(1));
        Check.due("and right", true, z.sound(0));
    }

    static void refusedChangesNothing() {
        Check.about("Terms: one that can't be done is REFUSED, and changes nothing at all");
        // Some of these do much of it ahead of what is not right: others go, are stored, lines are covered, the root counts.
        String[] ahead = {"write 0 1;read 5;flip 3 0 1;", "write 0 1;write 0 2;write 6 1;bend 4 4 1;", "write 0 1;flush;write 0 1;bend 4 4 1;", "write 0 9;flip 2 0 1;", "read 0;",
            "write 0 1;flush;write 9 1;write 0 1;bend 5 4 1;", "write 0 1;write 3 1;write 6 1;bend 5 4 1;flip 18 0 1;", "copy 0;write 0 1;lay 0 0;", "loss;flip 0 0 1;", "loss;"};
        String[] steps = {"read 3;", "read 3;", "flush;", "write 0 8;", "mend;", "flush;", "read 18;", "read 0;", "mend;", "loss;"};
        for (int i = 0; i < ahead.length; i++) {
            FreshLines x = Check.made("tree 3 2 4;minor 1;", ahead[i]);
            String state = Check.state(x);
            Check.due("'" + steps[i] + "' behind '" + ahead[i] + "'", 0, Check.work(x, steps[i]));
            Check.due("refused", 1, x.told(10));
            Check.due("all but what the latest work tells", Check.unworked(state), Check.unworked(Check.state(x)));
        }
    }

    static void withoutPower() {
        Check.about("Terms: read, write, flush are REFUSED without power");
        FreshLines x = Check.made("tree 2 1 2;", "write 0 1;loss;");
        String[] steps = {"read 0;", "write 0 1;", "flush;", "loss;"};
        for (String step : steps) {
            Check.due(step, 0, Check.work(x, step));
            Check.due("refused", "1 0 0 -1", x.told(10) + " " + x.told(11) + " " + x.told(12) + " " + x.told(13));
        }
        Check.due("reel", "0 -1", x.reel(0) + " " + x.reel(1));
        Check.due("with power again", 4, Check.work(x, "mend;read 0;write 0 1;flush;"));
    }

    static void firstNotFresh() {
        Check.about("Terms: as not FRESH, if something is not RIGHT that has to be (the first such; its DEPTH)");
        FreshLines x = Check.made("tree 2 3 3;", "flip 0 0 1;");
        Check.work(x, "read 0;");
        Check.due("the line", 4, x.told(13));
        Check.work(x, "bend 6 3 1;read 0;");
        Check.due("the leaf", 3, x.told(13));
        Check.work(x, "bend 2 3 1;read 0;");
        Check.due("above it", 2, x.told(13));
        Check.work(x, "bend 0 3 1;read 0;");
        Check.due("the first", 1, x.told(13));
        Check.work(x, "write 0 1;");
        Check.due("by a write", 1, x.told(13));
        // For line 0 the leaf of line 4 goes first, and its neighbour, at depth 3, is not right; node 0 would be the next.
        FreshLines y = Check.made("tree 2 3 3;minor 1;", "write 8 1;flush;write 8 1;bend 11 3 1;bend 0 3 1;read 0;");
        Check.due("the one that goes comes ahead of the one that is fetched", 3, y.told(13));
        Check.about("Terms: LINES have DEPTH D and 1");
        for (int depth = 1; depth <= 5; depth++) {
            FreshLines w = Check.made("tree 2 " + depth + " 5;", "flip 1 0 1;read 1;");
            Check.due("refused at the lines", "1 1 0 " + (depth + 1), w.told(10) + " " + w.told(11) + " " + w.told(12) + " " + w.told(13));
            Check.due("where", depth + 1, w.where(1));
        }
        FreshLines z = Check.made("tree 2 3 3;", "flip 0 0 1;");
        Check.due("a write asks nothing of its line", 1, Check.work(z, "write 0 1;"));
    }

    static void leafWorn() {
        Check.about("Terms: as WORN, if a MAJOR would be above 63 (of a LEAF)");
        FreshLines x = Check.made("tree 2 1 1;minor 1;", "again 60[write 0 1;write 0 2;];again 6[write 0 3;];");
        Check.due("126 writes: major 63", "63 0 0", x.held(0, 0) + " " + x.held(0, 1) + " " + x.held(0, 2));
        Check.due("one more", 1, Check.work(x, "write 0 4;"));
        Check.due("minor 1", "63 1 0", x.held(0, 0) + " " + x.held(0, 1) + " " + x.held(0, 2));
        Check.due("and no more", 0, Check.work(x, "write 0 5;"));
        Check.due("worn, not as not fresh", "1 0 1 -1", x.told(10) + " " + x.told(11) + " " + x.told(12) + " " + x.told(13));
        Check.due("its word stays", 4, x.word(0));
        Check.due("reads and flushes are done", 3, Check.work(x, "read 0;flush;read 1;"));
        Check.due("the other line, once", 1, Check.work(x, "write 1 1;write 1 1;"));
    }

    /** Node 0 counts for two leaves, which put out each other: three of these make one MAJOR. */
    private static FreshLines wornNode() {
        FreshLines x = Check.made("tree 2 2 2;minor 1;", "again 60[write 0 1;write 2 1;];", "again 60[write 0 1;write 2 1;];");
        return x;
    }

    static void nodeWorn() {
        Check.about("Terms: as WORN, if a MAJOR would be above 63 (of a NODE above LEAVES)");
        FreshLines x = wornNode();
        Check.due("major of the copy", 63, x.held(0, 0));
        Check.due("the latest work had some refused", true, x.told(12) > 0);
        Check.due("all refused were worn", x.told(10), x.told(12));
        int minor = x.held(0, 1) + x.held(0, 2);
        Check.due("one of both is full", true, minor >= 1);
        int held = x.node(2, 4) == 1 ? 2 : 3;
        Check.due("a leaf is held and dirty", 1L << held | 1, x.dirty() | 1);
        Check.due("its minor above is full", 1, x.held(0, held - 1));
        Check.due("a read that puts it out is worn", 0, Check.work(x, "read 7;"));
        Check.due("as worn", "1 0 1", x.told(10) + " " + x.told(11) + " " + x.told(12));
        Check.due("a flush too", 0, Check.work(x, "flush;"));
        Check.due("as worn", "1 0 1", x.told(10) + " " + x.told(11) + " " + x.told(12));
        int line = held == 2 ? 0 : 2;
        Check.due("the leaf that is held goes on", 2, Check.work(x, "read " + line + ";write " + (line + 1) + " 5;"));
    }

    static void rootWorn() {
        Check.about("Terms: as WORN, if a MAJOR would be above 63 (of the ROOT)");
        // Two leaves by turns: three of their goings make one MAJOR of the root.
        FreshLines x = Check.made("tree 2 1 1;minor 1;", "again 60[write 0 1;write 2 1;];", "again 60[write 0 1;write 2 1;];");
        Check.due("major", 63, x.root(0));
        Check.due("some were refused, all as worn", true, x.told(12) > 0 && x.told(12) == x.told(10));
        int held = x.used(0);
        Check.due("its minor is full", 1, x.root(1 + held));
        Check.due("flush", 0, Check.work(x, "flush;"));
        Check.due("worn", "1 0 1", x.told(10) + " " + x.told(11) + " " + x.told(12));
        Check.due("read of the other", 0, Check.work(x, "read " + (held == 0 ? 2 : 0) + ";"));
        Check.due("worn", "1 0 1", x.told(10) + " " + x.told(11) + " " + x.told(12));
        Check.due("it is still held", held, x.used(0));
        Check.due("and goes on", 1, Check.work(x, "read " + (held == 0 ? 0 : 2) + ";"));
    }

    static void wornAheadOfFresh() {
        Check.about("Terms: as WORN: the MAJOR is counted ahead of the other PARTS' being FETCHED");
        FreshLines x = Check.made("tree 2 1 1;minor 1;", "again 60[write 0 1;write 0 2;];again 7[write 0 3;];flip 1 0 1;");
        Check.work(x, "write 0 1;");
        Check.due("worn", "1 0 1", x.told(10) + " " + x.told(11) + " " + x.told(12));
        Check.work(x, "bend 1 3 1;read 2;");
        Check.due("not fresh", "1 1 0", x.told(10) + " " + x.told(11) + " " + x.told(12));
    }

    static void steps200() {
        Check.about("Terms: 200 STEPS at most are begun by one WORK, what would come behind is left out");
        FreshLines x = Check.made("tree 2 2 2;");
        Check.due("1, 180, 1, 17, 1: the last is the 200th", 180 + 17 + 1, Check.work(x, "again 60[read 0;read 0;read 0;];again 17[read 0;];read 7;"));
        Check.due("the 200th", 7, x.reel(23));
        Check.due("1, 180, 1, 18: the next would be the 201st", 180 + 18, Check.work(x, "again 60[read 0;read 0;read 0;];again 18[read 0;];read 6;"));
        Check.due("not done", 0, x.reel(23));
        Check.due("nor refused", 0, x.told(10));
        Check.due("each work has 200 of its own", 1, Check.work(x, "read 5;"));
        Check.due("199 in one again", 199, Check.work(x, "again 60[read 0;read 1;read 2;read 3;];"));
        // 1 and 4 times 49 are 197; then read 0 and read 1 are the last two of these 199 begun behind it.
        Check.due("cut off in the midst of a round", 2, x.reel(23));
    }

    static void steps200Refused() {
        Check.about("Terms: 200 STEPS at most (REFUSED ones, too)");
        FreshLines x = Check.made("tree 2 2 2;");
        Check.due("the 200th is done", 1, Check.work(x, "again 60[mend;mend;mend;];again 17[mend;];read 7;read 6;"));
        Check.due("refused", 197, x.told(10));
        Check.due("it alone", "7 -1", x.reel(0) + " " + x.reel(1));
        Check.due("199 refused", 0, Check.work(x, "again 60[mend;mend;mend;];again 18[mend;];read 7;"));
        Check.due("refused", 198, x.told(10));
    }

    static void steps200Again() {
        Check.about("Terms: 200 STEPS at most (an again, too, each time it is come to)");
        FreshLines x = Check.made("tree 2 2 2;");
        Check.due("1, 180 empty agains, 1, 17, and the 200th", 18, Check.work(x, "again 60[again 0[];again 0[];again 0[];];again 17[read 0;];read 7;read 6;"));
        Check.due("the 200th", 7, x.reel(17));
        Check.due("no more", -1, x.reel(18));
        Check.due("agains of one round each", 18, Check.work(x, "again 60[again 1[];again 1[];again 1[];];again 17[read 0;];read 7;read 6;"));
        Check.due("1, and 61 each time: three times, then 1 and 15", 60 * 3 + 15, Check.work(x, "again 60[again 60[read 0;];];"));
        Check.due("agains are not counted as done", 0, Check.work(x, "again 60[again 60[again 60[];];];"));
        Check.due("so many times", 60, Check.work(x, "again 60[read 0;];"));
        Check.due("once", 1, Check.work(x, "again 1[read 0;];"));
        Check.due("not at all", 0, Check.work(x, "again 0[read 0;];"));
        Check.due("what comes behind not at all", 1, Check.work(x, "again 0[read 0;again 2[read 1;];];read 2;"));
        Check.due("2 times (1, and 3 times 1)", 8, Check.work(x, "again 2[read 0;again 3[read 1;];];"));
    }

    static void losses() {
        Check.about("Terms: loss: no NODE is HELD (none GOES), there is no power (REFUSED without)");
        FreshLines x = Check.made("tree 2 2 2;", "write 0 1;");
        long print = x.print();
        Check.due("done", 1, Check.work(x, "loss;"));
        Check.due("held, power, dirty", "0 0 0", x.told(8) + " " + x.told(9) + " " + x.dirty());
        Check.due("nothing outside changes", print, x.print());
        Check.due("nothing above", 0, x.root(1));
        Check.due("nothing was stored but the line", "0 0 1", x.stored(1) + " " + x.stored(2) + " " + x.stored(3));
        Check.due("a second is refused", 0, Check.work(x, "loss;"));
        Check.due("refused", 1, x.told(10));
        Check.due("after mend it is not", 2, Check.work(x, "mend;loss;"));
    }

    static void mends() {
        Check.about("Terms: mend: EPOCH is 1 more, all MAJORS, minors of LEAVES are as FOUND tells, those of the ROOT and of other NODES are 0, all NODES are OUTSIDE so, with SUMS by that");
        FreshLines x = Check.made("tree 2 2 2;minor 1;key 6;", "write 0 1;flush;write 0 2;flush;write 1 3;write 7 4;flush;bend 1 0 5;bend 5 3 9;write 0 8;loss;");
        Check.due("root ahead", "1 1 1", x.root(0) + " " + x.root(1) + " " + x.root(2));
        int fetched = x.fetched(1) + x.fetched(2) + x.fetched(3);
        int stored = x.stored(1) + x.stored(2) + x.stored(3);
        int tally = x.told(7);
        Check.due("done", 1, Check.work(x, "mend;"));
        Check.due("epoch, tally, held, power", "1 " + tally + " 0 1", x.told(6) + " " + x.told(7) + " " + x.told(8) + " " + x.told(9));
        Check.due("root", "0 0 0", x.root(0) + " " + x.root(1) + " " + x.root(2));
        int[][] rows = {{0, 0, 0}, {0, 0, 0}, {1, 1, 1}, {0, 0, 0}, {0, 0, 0}, {0, 0, 1}};
        for (int node = 0; node < 6; node++) {
            Check.due("node " + node, rows[node][0] + " " + rows[node][1] + " " + rows[node][2], x.node(node, 0) + " " + x.minor(node, 0) + " " + x.minor(node, 1));
            Check.due("sum of " + node, Sums.nodeSum(Sums.weights(6), rows[node], node, 0, 1), x.node(node, 1));
        }
        Check.about("Terms: mend: they count as neither FETCHED nor STORED");
        Check.due("fetched", fetched, x.fetched(1) + x.fetched(2) + x.fetched(3));
        Check.due("stored", stored, x.stored(1) + x.stored(2) + x.stored(3));
        Check.due("words", "8 3 0 4", x.word(0) + " " + x.word(1) + " " + x.word(2) + " " + x.word(7));
        Check.about("3: an empty ALBUM and REEL, no SNAPSHOTS: by a MACHINE, not by loss and mend");
        FreshLines y = Check.made("tree 2 1 1;", "read 3;copy 1;shoot;loss;mend;");
        Check.due("they stay", "1 1 3 -1", y.told(14) + " " + y.told(15) + " " + y.reel(0) + " " + y.reel(1));
    }

    static void mendsOfMajors() {
        Check.about("Terms: FOUND of a LINE: the VERSION, 0 to 64 times LIMIT less 1");
        for (int bits = 1; bits <= 4; bits++) {
            int most = 64 * (1 << bits) - 1;
            FreshLines x = Check.made("tree 2 1 1;minor " + bits + ";key 12;");
            Check.work(x, Sums.forge(x, 12, 2, most));
            Check.due("the highest", most, x.found(2));
            Check.work(x, Sums.forge(x, 12, 2, most + 1));
            Check.due("one more", -1, x.found(2));
            Check.work(x, Sums.forge(x, 12, 2, 0));
            Check.due("0", 0, x.found(2));
            FreshLines y = Check.made("tree 2 1 1;minor " + bits + ";key 12;", "copy 2;lay 0 3;");
            Check.due("below 0", -1, y.found(3));
        }
        FreshLines z = Check.made("tree 2 1 1;minor 1;", "again 60[write 0 1;write 0 2;];again 7[write 0 3;];loss;");
        Check.due("majors of 63 are as found", 1, Check.work(z, "mend;"));
        Check.due("leaf", "63 1 0", z.node(0, 0) + " " + z.minor(0, 0) + " " + z.minor(0, 1));
        Check.due("it is right", 1, Check.work(z, "read 0;"));
    }

    static void mendRefused() {
        Check.about("Terms: mend (REFUSED, if mends() is not 0)");
        FreshLines x = Check.made("tree 2 1 1;minor 1;", "copy 0;copy 1;mend;");
        Check.due("1, with power", "1 1 0 0", x.mends() + " " + x.told(10) + " " + x.told(11) + " " + x.told(12));
        Check.work(x, "write 0 1;write 0 2;loss;flip 3 0 1;");
        long print = x.print();
        Check.work(x, "mend;");
        Check.due("2, nothing found", "2 1 0 0", x.mends() + " " + x.told(10) + " " + x.told(6) + " " + x.told(9));
        Check.due("nothing changes", print, x.print());
        Check.work(x, "flip 3 0 1;lay 0 0;mend;");
        Check.due("3, unlike majors", "3 1 0 0", x.mends() + " " + x.told(10) + " " + x.told(6) + " " + x.told(9));
        Check.work(x, "lay 1 1;mend;");
        Check.due("4, the tally", "4 1 0 0", x.mends() + " " + x.told(10) + " " + x.told(6) + " " + x.told(9));
    }

    static void epochs() {
        Check.about("Terms: EPOCH is 1 more; 25: 5 EPOCH is 14");
        FreshLines x = Check.made("tree 2 1 1;", "again 13[loss;mend;];loss;");
        Check.due("13", "13 0", x.told(6) + " " + x.mends());
        Check.due("to 14", 1, Check.work(x, "mend;"));
        Check.due("14", "14 1", x.told(6) + " " + x.told(9));
        Check.due("a last loss", 1, Check.work(x, "loss;mend;"));
        Check.due("no more", "14 5 0", x.told(6) + " " + x.mends() + " " + x.told(9));
    }
}
