/** What is asked: each sentence of a promise that names a boundary, by itself. */
public final class AskedEdgesTest {
    private static final int LEAST = Integer.MIN_VALUE;
    private static final int MOST = Integer.MAX_VALUE;

    public static void main(String[] args) {
        toldAhead();
        toldOfTheLatest();
        toldRange();
        rootRange();
        lineRange();
        lineByVersion();
        words();
        soundAndWhere();
        foundRange();
        nodeRange();
        nodeAsItStands();
        minorRange();
        heldRange();
        usedRange();
        aboveRange();
        underRange();
        dirtyBits();
        fetchedAndStored();
        left();
        wear();
        costsRange();
        costsRefused();
        flushesRange();
        afterRange();
        afterSome();
        losses();
        lossesRefused();
        tourRange();
        tourNone();
        tourFewest();
        tourFirst();
        tourOfFive();
        stopRange();
        reelOf24();
        reelOfDone();
        reelByRange();
        reelByTrusting();
        leastRange();
        padRange();
        weightRange();
        boxRange();
        print();
        statusRange();
        statusOfEach();
        askedNothingStays();
        Check.end("AskedEdgesTest");
    }

    static void toldAhead() {
        Check.about("6: 10 STEPS REFUSED by the latest WORK (0 ahead of any of this MACHINE; so below), 13 (NONE)");
        FreshLines x = new FreshLines();
        Check.due("ahead of any", "0 0 0 -1", x.told(10) + " " + x.told(11) + " " + x.told(12) + " " + x.told(13));
        Check.work(x, "mend;flip 0 0 1;read 0;");
        Check.due("refused", "2 1 0 4", x.told(10) + " " + x.told(11) + " " + x.told(12) + " " + x.told(13));
        Check.machine(x, "key");
        Check.due("a machine of a fault is none", "2 1 0 4", x.told(10) + " " + x.told(11) + " " + x.told(12) + " " + x.told(13));
        x.machine(0);
        Check.due("ahead of any of this machine", "0 0 0 -1", x.told(10) + " " + x.told(11) + " " + x.told(12) + " " + x.told(13));
    }

    static void toldOfTheLatest() {
        Check.about("6: 11 of these as not FRESH, 12 as WORN, 13 the DEPTH at the last that was not FRESH of these (NONE)");
        FreshLines x = Check.made("tree 2 2 2;", "flip 0 0 1;bend 5 3 1;bend 1 3 1;");
        Check.work(x, "read 0;read 4;mend;read 0;");
        Check.due("the last is the line", "4 3 0 3", x.told(10) + " " + x.told(11) + " " + x.told(12) + " " + x.told(13));
        Check.work(x, "read 0;read 4;mend;");
        Check.due("the last is node 1", "3 2 0 1", x.told(10) + " " + x.told(11) + " " + x.told(12) + " " + x.told(13));
        Check.work(x, "mend;lay 0 0;");
        Check.due("none as not fresh", "2 0 0 -1", x.told(10) + " " + x.told(11) + " " + x.told(12) + " " + x.told(13));
        x.work(0);
        Check.due("an empty work is the latest", "0 0 0 -1", x.told(10) + " " + x.told(11) + " " + x.told(12) + " " + x.told(13));
        FreshLines y = Check.made("tree 2 1 1;minor 1;", "again 60[write 0 1;write 0 2;write 0 3;write 0 4;];");
        Check.due("1 for the again, 199 writes, 127 are done", "72 0 72 -1", y.told(10) + " " + y.told(11) + " " + y.told(12) + " " + y.told(13));
    }

    static void toldRange() {
        Check.about("6: IllegalArgumentException: another what");
        FreshLines x = new FreshLines();
        for (int what : new int[] {-1, 16, LEAST, MOST}) {
            Check.thrown("told " + what, Check.ILLEGAL, () -> x.told(what));
        }
        Check.due("15 and 0 are good", "0 2", x.told(15) + " " + x.told(0));
        Check.due("refused calls", 4, x.status(1));
    }

    static void rootRange() {
        Check.about("7: 0 MAJOR, 1 to F its minors in order (so below)");
        for (int fan = 2; fan <= 4; fan++) {
            FreshLines x = Check.made("tree " + fan + " 1 1;", "write " + (fan * fan - 1) + " 1;flush;");
            Check.due("the last", "0 1", x.root(fan - 1) + " " + x.root(fan));
            for (int what : new int[] {-1, fan + 1, LEAST, MOST}) {
                Check.thrown("root " + what, Check.ILLEGAL, () -> x.root(what));
            }
        }
    }

    static void lineRange() {
        Check.about("8: NoSuchElementException: no such LINE (ahead of others); IllegalArgumentException: another what");
        FreshLines x = Check.made("tree 3 1 1;");
        for (int line : new int[] {9, -1, 64, LEAST, MOST}) {
            Check.thrown("line " + line, Check.MISSING, () -> x.line(line, 0));
            Check.thrown("line " + line + ", ahead of what", Check.MISSING, () -> x.line(line, 7));
            Check.thrown("word " + line, Check.MISSING, () -> x.word(line));
            Check.thrown("sound " + line, Check.MISSING, () -> x.sound(line) ? 1 : 0);
            Check.thrown("where " + line, Check.MISSING, () -> x.where(line));
            Check.thrown("found " + line, Check.MISSING, () -> x.found(line));
            Check.thrown("left " + line, Check.MISSING, () -> x.left(line));
            Check.thrown("wear " + line, Check.MISSING, () -> x.wear(line));
        }
        for (int what : new int[] {7, -1, LEAST, MOST}) {
            Check.thrown("what " + what, Check.ILLEGAL, () -> x.line(8, what));
        }
        Check.due("the last line", "0 1", x.line(8, 5) + " " + x.line(8, 6));
        Check.due("the last of another tree", 0, Check.made("tree 4 2 2;").line(63, 5));
    }

    static void lineByVersion() {
        Check.about("8: 5 its VERSION by its LEAF as it STANDS, 6 1 it is RIGHT by that, 0 not");
        FreshLines x = Check.made("tree 2 1 1;minor 1;", "write 3 1;write 3 1;write 3 1;");
        Check.due("by the copy", "3 1", x.line(3, 5) + " " + x.line(3, 6));
        Check.work(x, "bend 1 2 1;bend 1 0 1;");
        Check.due("bends are not looked at", "3 1", x.line(3, 5) + " " + x.line(3, 6));
        Check.work(x, "loss;");
        Check.due("now they are", "3 1", x.line(3, 5) + " " + x.line(3, 6));
        Check.work(x, "bend 1 0 62;");
        Check.due("63 times 2, and 1", "127 0", x.line(3, 5) + " " + x.line(3, 6));
    }

    static void words() {
        Check.about("9: -2: there is no power; else -1: it is not SOUND");
        FreshLines x = Check.made("tree 2 2 2;key 6;word 0 99999999;", "flip 1 0 1;bend 5 3 1;");
        Check.due("a word", 99_999_999, x.word(0));
        Check.due("not sound by itself", -1, x.word(1));
        Check.due("nor by its leaf", -1, x.word(7));
        Check.work(x, "loss;");
        Check.due("no power", -2, x.word(0));
        Check.due("ahead of not sound", "-2 -2", x.word(1) + " " + x.word(7));
        Check.work(x, "flip 1 0 1;bend 5 3 999;");
        Check.due("with power again", 1, Check.work(x, "mend;"));
        Check.due("a word", 99_999_999, x.word(0));
        Check.about("9: bytes and PAD, what is unlike (32 bits)");
        FreshLines y = Check.made("tree 2 1 1;key 8;");
        int pads = Sums.pad(8, 0, 0);
        // Bytes by which line 0 is right, though nobody wrote them: the word has 32 bits.
        for (int turn = 0; turn < 20 && y.word(0) < 1L << 31; turn++) {
            Check.work(y, "flip 0 3 128;" + (turn == 0 ? "" : "flip 0 0 " + turn + ";"));
            int[] bytes = Sums.bytesOf(y, 0);
            String text = fit(bytes, y.line(0, 4));
            Check.work(y, text);
            int cover = y.line(0, 0) | y.line(0, 1) << 8 | y.line(0, 2) << 16 | y.line(0, 3) << 24;
            Check.due("right", 1, y.line(0, 6));
            Check.due("its word", (cover ^ pads) & 0xFFFFFFFFL, y.word(0));
        }
        Check.due("one above 31 bits was seen", true, y.word(0) >= 1L << 31);
    }

    /** Flips of bytes 0 to 2 of line 0 by which it is RIGHT by 0, with byte 3 as it is. */
    private static String fit(int[] old, int sum) {
        int[] weights = Sums.weights(8);
        int[] bytes = old.clone();
        for (int all = 0; all < 1 << 24; all++) {
            bytes[0] = all & 255;
            bytes[1] = all >> 8 & 255;
            bytes[2] = all >> 16;
            if (Sums.lineSum(weights, bytes, 0, 0) == sum) {
                StringBuilder text = new StringBuilder();
                for (int i = 0; i < 3; i++) {
                    if (bytes[i] != old[i]) {
                        text.append("flip 0 ").append(i).append(' ').append(bytes[i] ^ old[i]).append(';');
                    }
                }
                return text.toString();
            }
        }
        return "";
    }

    static void soundAndWhere() {
        Check.about("11: the DEPTH of the first on the way to a LINE (from DEPTH 1 on, NODES that are HELD left out, the LINE last) that is not RIGHT so; 0: it is SOUND");
        FreshLines x = Check.made("tree 2 5 5;");
        Check.due("sound", "0 true", x.where(63) + " " + x.sound(63));
        String[] bends = {"flip 63 0 1;", "bend 61 3 1;", "bend 29 3 1;", "bend 13 3 1;", "bend 5 3 1;", "bend 1 3 1;"};
        for (int depth = 6; depth >= 1; depth--) {
            Check.work(x, bends[6 - depth]);
            Check.due("at depth " + depth, depth + " false", x.where(63) + " " + x.sound(63));
        }
        Check.due("the other half", "0 true", x.where(31) + " " + x.sound(31));
        FreshLines y = Check.made("tree 2 2 2;", "read 0;bend 0 3 1;bend 2 3 1;");
        Check.due("held ones are left out", "0 true", y.where(0) + " " + y.sound(0));
        Check.work(y, "flip 0 0 1;");
        Check.due("the line is not", "3 false", y.where(0) + " " + y.sound(0));
        Check.work(y, "flip 0 0 1;bend 3 0 1;");
        Check.due("a leaf below a held one, by the copy", "2 false", y.where(2) + " " + y.sound(2));
        Check.work(y, "loss;");
        Check.due("without the copies", "1 false", y.where(0) + " " + y.sound(0));
    }

    static void foundRange() {
        Check.about("12: FOUND; NONE");
        FreshLines x = Check.made("tree 2 1 1;minor 1;key 4;", "write 1 1;write 1 2;write 1 3;");
        Check.due("3, and 2 of the neighbour", "3 2", x.found(1) + " " + x.found(0));
        Check.work(x, "flip 1 0 1;");
        Check.due("none", -1, x.found(1));
        Check.work(x, "flip 1 0 1;loss;");
        Check.due("no power", 3, x.found(1));
    }

    static void nodeRange() {
        Check.about("13: NoSuchElementException: no such NODE (ahead of others); IllegalArgumentException: another what");
        FreshLines x = Check.made("tree 3 1 1;");
        for (int node : new int[] {3, -1, 62, LEAST, MOST}) {
            Check.thrown("node " + node, Check.MISSING, () -> x.node(node, 0));
            Check.thrown("node " + node + ", ahead of what", Check.MISSING, () -> x.node(node, 8));
            Check.thrown("under " + node, Check.MISSING, () -> x.under(node));
        }
        for (int what : new int[] {8, -1, LEAST, MOST}) {
            Check.thrown("what " + what, Check.ILLEGAL, () -> x.node(2, what));
        }
        Check.due("the last node", "1 -1 1", x.node(2, 2) + " " + x.node(2, 3) + " " + x.node(2, 7));
        Check.due("the last of 62", "5 29", Check.made("tree 2 5 5;").node(61, 2) + " " + Check.made("tree 2 5 5;").node(61, 3));
    }

    static void nodeAsItStands() {
        Check.about("13: 4 1 it is HELD, 5 1 it is DIRTY (0 each, if not), 6 its VERSION by the one above as it STANDS, 7 1 what lies OUTSIDE is RIGHT by that, 0 not");
        FreshLines x = Check.made("tree 2 2 2;minor 2;", "write 0 1;");
        Check.due("0 is held, not dirty", "1 0", x.node(0, 4) + " " + x.node(0, 5));
        Check.due("2 is held, dirty", "1 1", x.node(2, 4) + " " + x.node(2, 5));
        Check.due("3 is neither", "0 0", x.node(3, 4) + " " + x.node(3, 5));
        Check.work(x, "read 2;");
        Check.due("by the copy of 0", "1 1", x.node(2, 6) + " " + x.node(2, 7));
        Check.work(x, "loss;");
        Check.due("by 0 outside", "0 0", x.node(2, 6) + " " + x.node(2, 7));
        Check.work(x, "bend 0 0 63;bend 0 1 3;");
        Check.due("the highest", 255, x.node(2, 6));
        Check.due("dirty no more", "0 0", x.node(0, 4) + " " + x.node(0, 5));
    }

    static void minorRange() {
        Check.about("14: minor k (0 to F less 1) of a NODE OUTSIDE. IndexOutOfBoundsException: there is none");
        for (int fan = 2; fan <= 4; fan++) {
            FreshLines x = Check.made("tree " + fan + " 1 1;", "bend 1 " + fan + " 1;bend 1 1 2;");
            Check.due("ends", "2 1", x.minor(1, 0) + " " + x.minor(1, fan - 1));
            for (int k : new int[] {fan, -1, LEAST, MOST}) {
                Check.thrown("k " + k, Check.BOUNDS, () -> x.minor(1, k));
                Check.thrown("no node, ahead of k", Check.MISSING, () -> x.minor(LEAST, k));
                Check.thrown("no node, ahead of k", Check.MISSING, () -> x.minor(x.told(5), k));
            }
            Check.work(x, "bend 1 " + fan + " 3;bend 1 1 2;write " + (2 * fan - 1) + " 1;");
            Check.due("the copy counts for nothing", "0 0", x.minor(1, 0) + " " + x.minor(1, fan - 1));
        }
    }

    static void heldRange() {
        Check.about("15: NullPointerException: it is not HELD (ahead of the next one)");
        for (int fan = 2; fan <= 4; fan++) {
            FreshLines x = Check.made("tree " + fan + " 1 1;minor 1;", "write " + (2 * fan - 1) + " 1;");
            Check.due("ends", "0 1", x.held(1, 0) + " " + x.held(1, fan));
            for (int k : new int[] {fan + 1, -1, LEAST, MOST}) {
                Check.thrown("k " + k, Check.BOUNDS, () -> x.held(1, k));
                Check.thrown("not held, ahead of k", Check.NULL, () -> x.held(0, k));
                Check.thrown("no node, ahead of both", Check.MISSING, () -> x.held(x.told(5), k));
                Check.thrown("no node -1, ahead of both", Check.MISSING, () -> x.held(-1, k));
            }
            Check.thrown("not held", Check.NULL, () -> x.held(0, 0));
            Check.work(x, "flush;");
            Check.thrown("not any more", Check.NULL, () -> x.held(1, 0));
            Check.work(x, "read " + fan + ";loss;");
            Check.thrown("not behind a loss", Check.NULL, () -> x.held(1, 0));
        }
    }

    static void usedRange() {
        Check.about("16: the k-th NODE that is HELD, from the one used longest ago (0) on; NONE: there are not so many; IllegalArgumentException: k below 0");
        FreshLines x = Check.made("tree 2 5 12;", "read 0;read 63;read 2;read 61;");
        Check.due("twelve: the first and the last", "30 60", x.used(0) + " " + x.used(11));
        Check.due("a thirteenth", "-1 -1", x.used(12) + " " + x.used(MOST));
        Check.thrown("-1", Check.ILLEGAL, () -> x.used(-1));
        Check.thrown("least", Check.ILLEGAL, () -> x.used(LEAST));
        Check.work(x, "flush;");
        Check.due("none is held", -1, x.used(0));
    }

    static void aboveRange() {
        Check.about("17: the NODE of a DEPTH (1 to D) on the way to a LINE");
        FreshLines x = Check.made("tree 3 2 2;");
        Check.due("ends", "2 11 0 3", x.above(26, 1) + " " + x.above(26, 2) + " " + x.above(0, 1) + " " + x.above(0, 2));
        Check.due("between", "0 5 1 6", x.above(8, 1) + " " + x.above(8, 2) + " " + x.above(9, 1) + " " + x.above(9, 2));
        for (int depth : new int[] {0, 3, -1, LEAST, MOST}) {
            Check.thrown("depth " + depth, Check.ILLEGAL, () -> x.above(0, depth));
            Check.thrown("no line, ahead of depth", Check.MISSING, () -> x.above(27, depth));
            Check.thrown("no line, ahead of depth", Check.MISSING, () -> x.above(-1, depth));
        }
        Check.due("of one depth", 1, Check.made("tree 2 1 1;").above(3, 1));
    }

    static void underRange() {
        Check.about("18: LINES (bits) on the way to which a NODE is");
        FreshLines x = Check.made("tree 2 5 5;");
        Check.due("half of 64", 0xFFFFFFFFL, x.under(0));
        Check.due("the other half", 0xFFFFFFFF00000000L, x.under(1));
        Check.due("the last two", 3L << 62, x.under(61));
        Check.due("the first two", 3L, x.under(30));
        Check.due("of 27", 0x1FFL << 18, Check.made("tree 3 2 2;").under(2));
    }

    static void dirtyBits() {
        Check.about("19: NODES (bits) that are DIRTY");
        FreshLines x = Check.made("tree 2 5 12;", "write 63 1;write 0 1;");
        Check.due("61 and 30", 1L << 61 | 1L << 30, x.dirty());
        Check.work(x, "flush;");
        Check.due("none", 0, x.dirty());
        Check.work(x, "read 0;");
        Check.due("held is not dirty", 0, x.dirty());
    }

    static void fetchedAndStored() {
        Check.about("20, 21: of a DEPTH (1 to D and 1)");
        for (int depth = 1; depth <= 5; depth++) {
            FreshLines x = Check.made("tree 2 " + depth + " " + depth + ";", "read 0;write 0 1;flush;");
            for (int d = 1; d <= depth + 1; d++) {
                Check.due("fetched " + d, 1, x.fetched(d));
                Check.due("stored " + d, 1, x.stored(d));
            }
            for (int d : new int[] {0, depth + 2, -1, LEAST, MOST}) {
                Check.thrown("fetched " + d, Check.ILLEGAL, () -> x.fetched(d));
                Check.thrown("stored " + d, Check.ILLEGAL, () -> x.stored(d));
            }
        }
        Check.about("20: how often FETCHED by now (not by a STEP that is REFUSED)");
        FreshLines y = Check.made("tree 2 2 2;", "flip 0 0 1;read 0;");
        Check.due("refused at the line", "0 0 0", y.fetched(1) + " " + y.fetched(2) + " " + y.fetched(3));
        Check.work(y, "flip 0 0 1;read 0;loss;mend;");
        Check.due("loss and mend leave it", "1 1 1", y.fetched(1) + " " + y.fetched(2) + " " + y.fetched(3));
    }

    static void left() {
        Check.about("27: how many writes of a LINE in a row its LEAF as it STANDS bears ahead of one by which it OVERFLOWS");
        for (int bits = 1; bits <= 4; bits++) {
            int limit = 1 << bits;
            FreshLines x = Check.made("tree 2 1 1;minor " + bits + ";");
            Check.due("at first", limit - 1, x.left(0));
            Check.work(x, "again " + (limit - 1) + "[write 0 1;];");
            Check.due("none, as the next overflows", "0 0", x.left(0) + " " + x.held(0, 0));
            Check.due("the other line", limit - 1, x.left(1));
            Check.work(x, "write 0 1;");
            Check.due("it did", limit - 1 + " 1", x.left(0) + " " + x.held(0, 0));
            Check.work(x, "write 0 1;bend 0 1 " + (limit - 1) + ";");
            Check.due("by the copy", limit - 2, x.left(0));
            Check.work(x, "loss;");
            Check.due("by what lies outside", 0, x.left(0));
        }
    }

    static void wear() {
        Check.about("28: likewise ahead of one that is WORN by it (NODES above not looked at)");
        for (int bits = 1; bits <= 4; bits++) {
            int limit = 1 << bits;
            FreshLines x = Check.made("tree 2 1 1;minor " + bits + ";");
            Check.due("at first", 64 * limit - 1, x.wear(0));
            Check.work(x, "again " + limit + "[write 0 1;];");
            Check.due("behind an overflow, both", (63 * limit - 1) + " " + (63 * limit - 1), x.wear(0) + " " + x.wear(1));
            Check.work(x, "flush;bend 0 0 62;bend 0 1 " + (limit - 1) + ";");
            Check.due("63 and the highest minor", "0 " + (limit - 1), x.wear(0) + " " + x.wear(1));
            Check.work(x, "bend 0 0 63;");
            Check.due("62 and the highest minor", limit, x.wear(0));
        }
        FreshLines y = Check.made("tree 2 1 1;minor 1;", "again 60[write 0 1;write 0 2;];again 5[write 0 3;];");
        Check.due("as many as will be done", "2 2", y.wear(0) + " " + y.after(0, 99, 0));
        FreshLines z = Check.made("tree 2 1 1;minor 1;", "again 60[write 0 1;write 2 1;];", "again 60[write 0 1;write 2 1;];");
        int other = z.used(0) == 0 ? 2 : 0;
        Check.due("the root is worn, and not looked at", true, z.wear(other) > 0 && z.after(other, 1, 0) == 0);
        FreshLines v = Check.made("tree 3 2 3;minor 2;", "write 26 1;write 26 1;write 13 1;write 12 1;write 12 1;write 12 1;");
        Check.due("lines in the midst and at the end", "253 255 254 252 255", v.wear(26) + " " + v.wear(25) + " " + v.wear(13) + " " + v.wear(12) + " " + v.wear(14));
        Check.due("left", "1 3 2 0 3", v.left(26) + " " + v.left(25) + " " + v.left(13) + " " + v.left(12) + " " + v.left(14));
        FreshLines w = Check.made("tree 2 1 1;minor 1;", "loss;");
        Check.due("without power", "1 127", w.left(0) + " " + w.wear(0));
    }

    static void costsRange() {
        Check.about("29: a LINE read (kind 0), written 0 (1); what 0 to 2");
        FreshLines x = Check.made("tree 2 2 2;minor 1;");
        for (int what = 0; what <= 2; what++) {
            Check.due("read", what == 0 ? 3 : 0, x.costs(7, 0, what));
            Check.due("written", what == 0 ? 2 : what == 1 ? 1 : 0, x.costs(7, 1, what));
        }
        for (int bad : new int[] {-1, LEAST, MOST}) {
            Check.thrown("kind " + bad, Check.ILLEGAL, () -> x.costs(0, bad, 0));
            Check.thrown("what " + bad, Check.ILLEGAL, () -> x.costs(0, 0, bad));
            Check.thrown("line " + bad, Check.MISSING, () -> x.costs(bad, 0, 0));
        }
        Check.thrown("kind 2", Check.ILLEGAL, () -> x.costs(0, 2, 0));
        Check.thrown("what 3", Check.ILLEGAL, () -> x.costs(0, 0, 3));
        Check.thrown("line 8, ahead of others", Check.MISSING, () -> x.costs(8, 2, 3));
        Check.work(x, "write 0 1;");
        Check.due("a read that puts out two, one of them dirty above", "3 2 2", x.costs(7, 0, 0) + " " + x.costs(7, 0, 1) + " " + x.costs(7, 0, 2));
        Check.due("a write that does", "2 3 2", x.costs(7, 1, 0) + " " + x.costs(7, 1, 1) + " " + x.costs(7, 1, 2));
        Check.due("a write that overflows", "1 2 0", x.costs(0, 1, 0) + " " + x.costs(0, 1, 1) + " " + x.costs(0, 1, 2));
    }

    static void costsRefused() {
        Check.about("29: NONE: it would be REFUSED");
        FreshLines x = Check.made("tree 2 1 1;minor 1;", "flip 0 0 1;bend 1 3 1;");
        for (int what = 0; what <= 2; what++) {
            Check.due("a line that is not right, read", -1, x.costs(0, 0, what));
            Check.due("a leaf that is not right, written", -1, x.costs(2, 1, what));
        }
        Check.due("a line that is not right, written", 1, x.costs(0, 1, 1));
        Check.work(x, "loss;");
        Check.due("no power", "-1 -1", x.costs(0, 0, 1) + " " + x.costs(0, 1, 2));
        FreshLines y = Check.made("tree 2 1 1;minor 1;", "again 60[write 0 1;write 0 2;];again 7[write 0 3;];");
        Check.due("worn", "-1 1", y.costs(0, 1, 0) + " " + y.costs(0, 0, 0));
        Check.due("no refused calls by these", "0 0", y.status(0) + " " + y.status(1));
    }

    static void flushesRange() {
        Check.about("30: were flush done now: 0 to 2; NONE: it would be REFUSED");
        FreshLines x = Check.made("tree 2 1 2;minor 1;");
        Check.due("nothing is held", "0 0 0", x.flushes(0) + " " + x.flushes(1) + " " + x.flushes(2));
        Check.work(x, "write 0 1;read 2;");
        Check.due("one dirty, one clean", "0 1 2", x.flushes(0) + " " + x.flushes(1) + " " + x.flushes(2));
        Check.work(x, "flush;write 0 1;");
        Check.due("overflows the root", "1 2 1", x.flushes(0) + " " + x.flushes(1) + " " + x.flushes(2));
        Check.work(x, "bend 1 3 1;");
        Check.due("1 is not right", "-1 -1 -1", x.flushes(0) + " " + x.flushes(1) + " " + x.flushes(2));
        Check.work(x, "loss;");
        Check.due("no power", "-1 -1 -1", x.flushes(0) + " " + x.flushes(1) + " " + x.flushes(2));
        for (int what : new int[] {3, -1, LEAST, MOST}) {
            Check.thrown("what " + what, Check.ILLEGAL, () -> x.flushes(what));
        }
        FreshLines y = Check.made("tree 2 1 1;minor 1;", "again 60[write 0 1;write 2 1;];", "again 60[write 0 1;write 2 1;];");
        Check.due("worn", -1, y.flushes(0));
    }

    static void afterRange() {
        Check.about("31: so many times (1 to 99); what 0 to 2");
        FreshLines x = Check.made("tree 2 1 1;minor 2;");
        Check.due("once", "1 1 1", x.after(0, 1, 0) + " " + x.after(0, 1, 1) + " " + x.after(0, 1, 2));
        Check.due("99 times: 24 overflows", "99 " + (99 + 96) + " " + (99 + 24), x.after(0, 99, 0) + " " + x.after(0, 99, 1) + " " + x.after(0, 99, 2));
        for (int many : new int[] {0, 100, -1, LEAST, MOST}) {
            Check.thrown("times " + many, Check.ILLEGAL, () -> x.after(0, many, 0));
            Check.thrown("no line, ahead of others", Check.MISSING, () -> x.after(4, many, 3));
        }
        for (int what : new int[] {3, -1, LEAST, MOST}) {
            Check.thrown("what " + what, Check.ILLEGAL, () -> x.after(0, 1, what));
        }
        Check.thrown("line -1", Check.MISSING, () -> x.after(-1, 1, 0));
    }

    static void afterSome() {
        Check.about("31: 0 how many of these were done, 1 the TALLY then, 2 how many NODES and LINES were STORED by these");
        FreshLines x = Check.made("tree 2 1 1;minor 1;", "again 60[write 0 1;write 0 2;];again 6[write 0 3;];");
        Check.due("one is done", "1 " + (x.told(7) + 1) + " 1", x.after(0, 99, 0) + " " + x.after(0, 99, 1) + " " + x.after(0, 99, 2));
        Check.work(x, "write 0 3;");
        Check.due("none is", "0 " + x.told(7) + " 0", x.after(0, 99, 0) + " " + x.after(0, 99, 1) + " " + x.after(0, 99, 2));
        FreshLines y = Check.made("tree 2 1 1;minor 1;", "write 0 1;");
        Check.due("the dirty leaf is stored by the first", "1 2 2", y.after(2, 1, 0) + " " + y.after(2, 1, 1) + " " + y.after(2, 1, 2));
        Check.work(y, "flip 1 0 1;");
        Check.due("not fresh: none", "0 1 0", y.after(0, 5, 0) + " " + y.after(0, 5, 1) + " " + y.after(0, 5, 2));
        Check.work(y, "loss;");
        Check.due("no power: none", "0 1 0", y.after(0, 5, 0) + " " + y.after(0, 5, 1) + " " + y.after(0, 5, 2));
        FreshLines z = Check.made("tree 2 1 1;minor 1;", "flip 1 0 1;");
        Check.due("the first is done, others are not", "1 1 1", z.after(0, 9, 0) + " " + z.after(0, 9, 1) + " " + z.after(0, 9, 2));
        FreshLines w = Check.made("tree 3 1 1;minor 1;", "flip 2 0 1;");
        Check.due("what a refused one would store ahead of that counts for nothing", "1 1 1", w.after(0, 9, 0) + " " + w.after(0, 9, 1) + " " + w.after(0, 9, 2));
    }

    static void losses() {
        Check.about("32: 1 how many NODES OUTSIDE would have another MAJOR or another minor than now");
        FreshLines x = Check.made("tree 2 2 2;minor 1;");
        Check.due("none", "0 0", x.losses(0) + " " + x.losses(1));
        Check.due("none of 14, of 62", "0 0", new FreshLines().losses(1) + " " + Check.made("tree 2 5 5;").losses(1));
        Check.work(x, "write 0 1;");
        Check.due("a minor of the leaf", "0 1", x.losses(0) + " " + x.losses(1));
        Check.work(x, "write 0 1;");
        Check.due("its major", "0 1", x.losses(0) + " " + x.losses(1));
        Check.work(x, "write 1 1;");
        Check.due("both: one node", "0 1", x.losses(0) + " " + x.losses(1));
        Check.work(x, "flush;");
        Check.due("node 0 has a minor", "0 1", x.losses(0) + " " + x.losses(1));
        Check.work(x, "bend 0 1 1;bend 4 0 1;bend 5 2 1;bend 1 3 9;");
        Check.due("bent ones; a sum is none of it", "0 2", x.losses(0) + " " + x.losses(1));
        Check.due("power, epoch stay", "1 0", x.told(9) + " " + x.told(6));
        Check.work(x, "loss;");
        Check.due("were there a loss, if there is power: the same without", "0 2", x.losses(0) + " " + x.losses(1));
        for (int what : new int[] {2, -1, LEAST, MOST}) {
            Check.thrown("what " + what, Check.ILLEGAL, () -> x.losses(what));
        }
    }

    static void lossesRefused() {
        Check.about("32: 0 what mends() would be ahead of mend, 1 (0, if it could not be done)");
        FreshLines x = Check.made("tree 2 2 2;minor 1;", "copy 0;copy 1;write 0 1;write 0 1;flush;");
        Check.due("with power it is never 1", "0 1", x.losses(0) + " " + x.losses(1));
        Check.work(x, "lay 0 0;");
        Check.due("majors", "3 0", x.losses(0) + " " + x.losses(1));
        Check.work(x, "lay 1 1;");
        Check.due("tally", "4 0", x.losses(0) + " " + x.losses(1));
        Check.work(x, "flip 7 3 1;");
        Check.due("nothing found", "2 0", x.losses(0) + " " + x.losses(1));
        FreshLines y = Check.made("tree 2 1 1;", "again 14[loss;mend;];write 0 1;");
        Check.due("epoch 14", "5 0", y.losses(0) + " " + y.losses(1));
    }

    static void tourRange() {
        Check.about("36: told LINES (bits; 5 at most); without any LINE: 0; IllegalArgumentException: more than 5, bits of no LINES");
        FreshLines x = Check.made("tree 3 1 3;");
        Check.due("none", 0, x.tour(0));
        Check.due("five, of two leaves", 5 + 2, x.tour(0x1F0L));
        Check.due("the last line", 2, x.tour(1L << 8));
        long[] bad = {0x3FL, 0x1FFL, 1L << 9, 1L << 9 | 1, Long.MIN_VALUE, -1L, Long.MAX_VALUE, 1L << 63 | 1, 1L << 31, 1L << 32};
        for (long lines : bad) {
            Check.thrown("tour " + lines, Check.ILLEGAL, () -> x.tour(lines));
            Check.thrown("stop " + lines, Check.ILLEGAL, () -> x.stop(lines, 0));
        }
        FreshLines y = Check.made("tree 2 5 5;");
        Check.due("line 63 of 64", 6, y.tour(Long.MIN_VALUE));
        Check.due("and others", 5 + 5 + 2 + 4, y.tour(1L << 63 | 1L << 62 | 1L << 61 | 1L | 2L));
        Check.thrown("six", Check.ILLEGAL, () -> y.tour(0xFC00000000000000L));
    }

    static void tourNone() {
        Check.about("36: NONE: there is none; a row in which any read is REFUSED is none");
        FreshLines x = Check.made("tree 2 1 2;", "flip 3 0 1;");
        Check.due("the bad line alone", "-1 -1", x.tour(8) + " " + x.stop(8, 0));
        Check.due("among others", "-1 -1", x.tour(15) + " " + x.stop(15, 0));
        Check.due("the others", 4, x.tour(5));
        Check.work(x, "loss;");
        Check.due("no power", "-1 -1", x.tour(1) + " " + x.stop(1, 0));
        Check.due("without any line, no power", "0 -1", x.tour(0) + " " + x.stop(0, 0));
        // Only if line 8 is read first, the dirty leaf 2 is not put out, which it could not be.
        FreshLines y = Check.made("tree 4 1 2;minor 1;", "write 8 1;flush;write 8 1;read 4;bend 3 5 1;");
        Check.due("line 0 alone puts out leaf 2", "-1", "" + y.tour(1));
        Check.due("8 and then 0", "3: 8 0", tourOf(y, 257));
    }

    static void tourFewest() {
        Check.about("36: by which, were they read so now, fewest NODES and LINES were FETCHED");
        FreshLines x = Check.made("tree 2 2 2;", "read 6;");
        Check.due("what is held comes first", "4: 7 0", tourOf(x, 129));
        Check.due("the overflow's are counted too", 5, overflown().tour(2L));
        FreshLines y = Check.made("tree 2 1 1;");
        Check.due("by leaves", "6: 0 1 2 3", tourOf(y, 15));
        Check.work(y, "read 3;");
        Check.due("the held leaf first", "5: 2 3 0 1", tourOf(y, 15));
    }

    /** By a read of line 1 leaf 1 goes, and the root overflows: 0, 2 and 3 are FETCHED, and then leaf 0 and the line. */
    private static FreshLines overflown() {
        return Check.made("tree 4 1 1;minor 1;", "write 4 1;flush;write 4 1;");
    }

    static void tourFirst() {
        Check.about("36: of alike ones the first (by LINE, from the first on)");
        FreshLines x = Check.made("tree 2 2 4;");
        Check.due("all alike", "7: 0 1 2 3", tourOf(x, 15));
        FreshLines y = Check.made("tree 2 2 2;", "read 4;");
        Check.due("4 and 5 are near: 4 ahead of 5, then 0 ahead of 1", "6: 4 5 0 1", tourOf(y, 51));
        FreshLines z = Check.made("tree 4 1 2;", "read 8;read 12;");
        Check.due("8 and 12 are held, either one first", "4: 8 12 0", tourOf(z, 1 | 256 | 4096));
        Check.work(z, "read 8;");
        Check.due("not the one used longest ago", "4: 8 12 0", tourOf(z, 1 | 256 | 4096));
    }

    /** How many are FETCHED, and the row. */
    private static String tourOf(FreshLines x, long lines) {
        StringBuilder s = new StringBuilder();
        s.append(x.tour(lines)).append(':');
        for (int k = 0; x.stop(lines, k) != FreshLines.NONE; k++) {
            s.append(' ').append(x.stop(lines, k));
        }
        return s.toString();
    }

    static void tourOfFive() {
        Check.about("36: a row of these, each once; 37: its k-th LINE");
        FreshLines x = Check.made("tree 2 5 12;", "read 40;");
        long lines = 1L << 3 | 1L << 20 | 1L << 41 | 1L << 50 | 1L << 63;
        long seen = 0;
        for (int k = 0; k < 5; k++) {
            seen |= 1L << x.stop(lines, k);
        }
        Check.due("each once", lines, seen);
        Check.due("a sixth", -1, x.stop(lines, 5));
    }

    static void stopRange() {
        Check.about("37: NONE: there are not so many, or no TOUR; IllegalArgumentException: k below 0");
        FreshLines x = Check.made("tree 2 2 2;");
        Check.due("the last", 5, x.stop(33, 1));
        Check.due("not so many", "-1 -1 -1", x.stop(33, 2) + " " + x.stop(33, 5) + " " + x.stop(33, MOST));
        Check.due("none at all", -1, x.stop(0, 0));
        Check.thrown("-1", Check.ILLEGAL, () -> x.stop(33, -1));
        Check.thrown("least", Check.ILLEGAL, () -> x.stop(33, LEAST));
        Check.thrown("-1 of none", Check.ILLEGAL, () -> x.stop(0, -1));
        Check.work(x, "flip 5 0 1;");
        Check.due("no tour", -1, x.stop(33, 0));
        Check.thrown("no tour, k below 0", Check.ILLEGAL, () -> x.stop(33, -1));
    }

    static void reelOf24() {
        Check.about("38: REEL: LINES of the latest 24; NONE: there are not so many; IllegalArgumentException: k below 0");
        FreshLines x = Check.made("tree 2 5 12;");
        Check.due("none", -1, x.reel(0));
        Check.work(x, "read 1;write 2 0;again 21[read 3;];");
        Check.due("23 of them", "1 2 3 -1", x.reel(0) + " " + x.reel(1) + " " + x.reel(22) + " " + x.reel(23));
        Check.work(x, "read 4;");
        Check.due("24", "1 4 -1", x.reel(0) + " " + x.reel(23) + " " + x.reel(24));
        Check.work(x, "read 5;");
        Check.due("the 25th puts out the first", "2 4 5 -1", x.reel(0) + " " + x.reel(22) + " " + x.reel(23) + " " + x.reel(24));
        Check.due("far", -1, x.reel(MOST));
        Check.thrown("-1", Check.ILLEGAL, () -> x.reel(-1));
        Check.thrown("least", Check.ILLEGAL, () -> x.reel(LEAST));
        for (int k = 0; k < 24; k++) {
            Check.work(x, "write " + (40 + k) + " 1;");
        }
        for (int k = 0; k < 24; k++) {
            Check.due("the latest, " + k, 40 + k, x.reel(k));
        }
    }

    static void reelOfDone() {
        Check.about("38: REEL: of reads and writes that were done");
        FreshLines x = Check.made("tree 2 1 1;", "read 3;flip 2 0 1;read 2;flush;copy 1;loss;read 1;mend;write 1 1;lay 0 0;");
        Check.due("a refused one is not, nor another step", "3 -1", x.reel(0) + " " + x.reel(1));
        Check.due("by that there was no mend", 2, x.mends());
        Check.work(x, "flip 2 0 1;lay 0 1;");
        FreshLines y = Check.made("tree 2 1 1;", "read 3;loss;mend;write 1 1;");
        Check.due("a loss leaves it", "3 1 -1", y.reel(0) + " " + y.reel(1) + " " + y.reel(2));
    }

    static void reelByRange() {
        Check.about("39: C another one (D to 12); what 0 to 1");
        for (int depth = 1; depth <= 5; depth++) {
            FreshLines x = Check.made("tree 2 " + depth + " " + depth + ";", "read 0;");
            Check.due("the least", depth + " 0", x.reelBy(depth, 0) + " " + x.reelBy(depth, 1));
            Check.due("the most", depth + " 0", x.reelBy(12, 0) + " " + x.reelBy(12, 1));
            for (int hold : new int[] {depth - 1, 13, -1, LEAST, MOST}) {
                Check.thrown("hold " + hold, Check.ILLEGAL, () -> x.reelBy(hold, 0));
            }
            for (int what : new int[] {2, -1, LEAST, MOST}) {
                Check.thrown("what " + what, Check.ILLEGAL, () -> x.reelBy(12, what));
            }
        }
        Check.due("an empty reel", "0 0", new FreshLines().reelBy(3, 0) + " " + new FreshLines().reelBy(3, 1));
    }

    static void reelByTrusting() {
        Check.about("39: were nothing HELD, nothing not RIGHT, and the LINES of the REEL read in order");
        FreshLines x = Check.made("tree 2 1 2;minor 1;", "write 0 1;read 2;write 0 1;");
        Check.due("hold 1: each puts out the other", "3 2", x.reelBy(1, 0) + " " + x.reelBy(1, 1));
        Check.due("hold 2: none", "2 0", x.reelBy(2, 0) + " " + x.reelBy(2, 1));
        Check.work(x, "flip 0 0 1;bend 0 3 1;bend 1 3 1;read 0;");
        Check.due("that was refused", 1, x.told(11));
        Check.due("nothing not right", "3 2", x.reelBy(1, 0) + " " + x.reelBy(1, 1));
        Check.due("the next question asks what is right again", "-1 1 -1", x.costs(0, 0, 0) + " " + x.costs(2, 0, 0) + " " + x.tour(1));
        Check.work(x, "loss;read 0;");
        Check.due("that was refused", 1, x.told(10));
        Check.due("power is not asked for", "3 2 1 2", x.reelBy(1, 0) + " " + x.reelBy(1, 1) + " " + x.least(4) + " " + x.least(2));
        Check.due("a written line is read: no overflow is counted", 3, x.reelBy(1, 0));
        FreshLines y = Check.made("tree 2 1 2;minor 1;", "write 0 1;flush;write 0 1;flush;write 0 1;read 2;");
        Check.due("goings are clean", "2 1", y.reelBy(1, 0) + " " + y.reelBy(1, 1));
        FreshLines z = Check.made("tree 4 1 4;", "again 4[read 0;read 4;read 8;];");
        Check.due("three by turns, hold 2: each fetch but two puts out one", "12 10", z.reelBy(2, 0) + " " + z.reelBy(2, 1));
        Check.due("hold 3", "3 0", z.reelBy(3, 0) + " " + z.reelBy(3, 1));
    }

    static void leastRange() {
        Check.about("40: the least C (D to 12) by which no more than n NODES were FETCHED so; NONE; IllegalArgumentException: n below 0");
        FreshLines x = Check.made("tree 4 1 4;", "again 4[read 0;read 4;read 8;];");
        Check.due("12: the least of all", 1, x.least(12));
        Check.due("11, as two do not help", 3, x.least(11));
        Check.due("3: just so many", 3, x.least(3));
        Check.due("2: none", -1, x.least(2));
        Check.due("0: none", -1, x.least(0));
        Check.due("most", 1, x.least(MOST));
        Check.thrown("-1", Check.ILLEGAL, () -> x.least(-1));
        Check.thrown("least", Check.ILLEGAL, () -> x.least(LEAST));
        Check.due("an empty reel: D", 5, Check.made("tree 2 5 9;").least(0));
        FreshLines y = Check.made("tree 2 3 4;", "again 2[read 0;read 2;read 4;read 6;read 8;read 12;];");
        Check.due("12 itself", "12 -1", y.least(12) + " " + y.least(11));
        Check.due("by 11 more are fetched", true, y.reelBy(11, 0) > 12);
    }

    static void padRange() {
        Check.about("41: PAD of a LINE by a VERSION (0 to 1,023)");
        FreshLines x = Check.made("tree 2 1 1;minor 1;key 45;");
        Check.due("ends", Sums.pad(45, 3, 0) + " " + Sums.pad(45, 3, 1023), x.pad(3, 0) + " " + x.pad(3, 1023));
        for (int version : new int[] {-1, 1024, LEAST, MOST}) {
            Check.thrown("version " + version, Check.ILLEGAL, () -> x.pad(3, version));
            Check.thrown("no line, ahead of it", Check.MISSING, () -> x.pad(4, version));
            Check.thrown("no line, ahead of it", Check.MISSING, () -> x.pad(-1, version));
        }
    }

    static void weightRange() {
        Check.about("42: WEIGHT k (0 to 10)");
        FreshLines x = new FreshLines();
        Check.due("ends", Sums.weights(0)[0] + " " + Sums.weights(0)[10], x.weight(0) + " " + x.weight(10));
        for (int k : new int[] {-1, 11, LEAST, MOST}) {
            Check.thrown("k " + k, Check.ILLEGAL, () -> x.weight(k));
        }
    }

    static void boxRange() {
        Check.about("43: BOX at a place (0 to 255)");
        FreshLines x = new FreshLines();
        Check.due("ends", Sums.box()[0] + " " + Sums.box()[255], x.box(0) + " " + x.box(255));
        for (int place : new int[] {-1, 256, LEAST, MOST}) {
            Check.thrown("place " + place, Check.ILLEGAL, () -> x.box(place));
        }
    }

    static void print() {
        Check.about("44: of each LINE its bytes and SUM, of each NODE its MAJOR, minors and SUM OUTSIDE, each time 31 times what there is, and that (64 bits that wrap)");
        FreshLines x = Check.made("tree 4 1 2;minor 3;key 99;", "write 15 7;bend 2 0 5;bend 1 4 3;bend 3 5 9;");
        long print = 0;
        for (int line = 0; line < 16; line++) {
            for (int what = 0; what <= 4; what++) {
                print = 31 * print + x.line(line, what);
            }
        }
        for (int node = 0; node < 4; node++) {
            print = 31 * print + x.node(node, 0);
            for (int k = 0; k < 4; k++) {
                print = 31 * print + x.minor(node, k);
            }
            print = 31 * print + x.node(node, 1);
        }
        Check.due("print", print, x.print());
        Check.work(x, "write 14 1;");
        long behind = x.print();
        Check.work(x, "loss;");
        Check.due("what is held is none of it", behind, x.print());
    }

    static void statusRange() {
        Check.about("45: NONE for others");
        FreshLines x = new FreshLines();
        for (int what : new int[] {-1, 5, LEAST, MOST}) {
            Check.due("status " + what, -1, x.status(what));
        }
        for (int what = 0; what <= 4; what++) {
            Check.due("status " + what, 0, x.status(what));
        }
    }

    static void statusOfEach() {
        Check.about("45: how many calls were refused: 0 NoSuchElementException, 1 IllegalArgumentException, 2 NullPointerException, 3 IndexOutOfBoundsException, 4 ClassCastException");
        FreshLines x = Check.made("tree 2 1 1;", "pick 0;read 0;");
        Check.thrown("once 4", Check.KIND, () -> x.kept(0, 9));
        for (int k = 0; k < 2; k++) {
            Check.thrown("twice 3", Check.BOUNDS, () -> x.held(0, 9));
        }
        for (int k = 0; k < 3; k++) {
            Check.thrown("three times 2", Check.NULL, () -> x.held(1, 9));
        }
        for (int k = 0; k < 4; k++) {
            Check.thrown("four times 1", Check.ILLEGAL, () -> x.line(0, 9));
        }
        for (int k = 0; k < 5; k++) {
            Check.thrown("five times 0", Check.MISSING, () -> x.line(9, 9));
        }
        Check.work(x, "lay 0 0;read 9;");
        Check.machine(x, "x");
        Check.due("by kind", "5 4 3 2 1", x.status(0) + " " + x.status(1) + " " + x.status(2) + " " + x.status(3) + " " + x.status(4));
        Check.about("45: (no MACHINE empties it)");
        Check.machine(x, "tree 3 1 1;");
        Check.due("by kind", "5 4 3 2 1", x.status(0) + " " + x.status(1) + " " + x.status(2) + " " + x.status(3) + " " + x.status(4));
        Check.thrown("a text that is too long", Check.ILLEGAL, () -> x.machine(601));
        Check.thrown("a work that is too long", Check.ILLEGAL, () -> x.work(151));
        Check.due("they count too", 6, x.status(1));
        FreshLines y = Check.made("tree 2 1 1;");
        Check.due("each object has its own", 0, y.status(1));
    }

    static void askedNothingStays() {
        Check.about("Terms: asked, nothing stays changed");
        String[] works = {"", "flip 3 0 1;", "bend 1 3 1;", "loss;"};
        for (String work : works) {
            FreshLines x = Check.made("tree 2 2 2;minor 1;", "copy 0;pick 2;shoot;write 0 1;flush;write 0 1;read 2;", work);
            String state = Check.state(x);
            String answers = ask(x, true);
            Check.due("behind '" + work + "'", state, Check.state(x));
            Check.due("the same answers in another order", answers, ask(x, false));
            Check.due("and again", answers, ask(x, true));
            Check.due("no refused call", "0 0 0 0 0", x.status(0) + " " + x.status(1) + " " + x.status(2) + " " + x.status(3) + " " + x.status(4));
        }
    }

    private static String ask(FreshLines x, boolean upward) {
        String[] answers = new String[16];
        for (int i = 0; i < answers.length; i++) {
            int what = upward ? i : answers.length - 1 - i;
            answers[what] = asked(x, what);
        }
        return String.join(" ", answers);
    }

    private static String asked(FreshLines x, int what) {
        switch (what) {
            case 0: return x.costs(7, 0, 0) + " " + x.costs(7, 0, 1) + " " + x.costs(7, 0, 2);
            case 1: return x.costs(0, 1, 0) + " " + x.costs(0, 1, 1) + " " + x.costs(0, 1, 2);
            case 2: return x.flushes(0) + " " + x.flushes(1) + " " + x.flushes(2);
            case 3: return x.after(4, 99, 0) + " " + x.after(4, 99, 1) + " " + x.after(4, 99, 2);
            case 4: return x.losses(0) + " " + x.losses(1);
            case 5: return x.replayed(0, 0) + " " + x.replayed(0, 1);
            case 6: return x.reelBy(3, 0) + " " + x.reelBy(3, 1);
            case 7: return x.laid(0, 3) + " " + x.laid(1, 3);
            case 8: return x.forgeries(3) + " " + x.splices();
            case 9: return x.stale() + " " + x.mends();
            case 10: return x.tour(0xE5L) + " " + x.stop(0xE5L, 0);
            case 11: return x.least(1) + " " + x.least(9);
            case 12: return x.left(0) + " " + x.wear(0);
            case 13: return x.found(0) + " " + x.found(3);
            case 14: return x.word(0) + " " + x.word(3) + " " + x.where(3);
            default: return x.reelBy(12, 0) + " " + x.reelBy(2, 1);
        }
    }
}
