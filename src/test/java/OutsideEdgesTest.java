/** What somebody outside may do, and what is told of it: each sentence that names a boundary, by itself. */
public final class OutsideEdgesTest {
    public static void main(String[] args) {
        flips();
        bendsOfMajors();
        bendsOfMinors();
        bendsOfSums();
        albumOf8();
        layWithoutOne();
        layAndGraft();
        copiesOfThen();
        shots();
        replays();
        withoutPower();
        albumTold();
        keptTold();
        laidThere();
        mendsInOrder();
        staleLeaves();
        forgeriesOfOneByte();
        splicesOfTwo();
        replayedThen();
        Check.end("OutsideEdgesTest");
    }

    static void flips() {
        Check.about("Terms: flip: byte Y of LINE L is what it was, with those bits turned that X has");
        FreshLines x = Check.made("tree 2 1 1;key 3;");
        int[] bytes = Sums.bytesOf(x, 3);
        int[] sums = {x.line(2, 4), x.line(3, 4)};
        int[] turned = {1, 255, 128, 85};
        for (int i = 0; i < 4; i++) {
            Check.work(x, "flip 3 " + i + " " + turned[i] + ";");
            for (int j = 0; j < 4; j++) {
                Check.due("byte " + j + " behind flip of " + i, j <= i ? bytes[j] ^ turned[j] : bytes[j], x.line(3, j));
            }
        }
        Check.due("the sum stays", sums[1], x.line(3, 4));
        Check.work(x, "flip 3 0 1;flip 3 1 255;flip 3 2 128;flip 3 3 85;");
        Check.due("turned twice it is back", true, x.sound(3));
        Check.due("another line stays", sums[0], x.line(2, 4));
    }

    static void bendsOfMajors() {
        Check.about("Terms: bend: of NODE N MAJOR (J 0) is X more, what is left by 64");
        FreshLines x = Check.made("tree 2 1 1;", "bend 1 0 63;");
        Check.due("63", 63, x.node(1, 0));
        Check.work(x, "bend 1 0 1;");
        Check.due("64 is 0", 0, x.node(1, 0));
        Check.work(x, "bend 1 0 999;");
        Check.due("999", 999 % 64, x.node(1, 0));
        Check.work(x, "bend 1 0 64;");
        Check.due("64 more", 999 % 64, x.node(1, 0));
        Check.due("nothing else", "0 0 0", x.minor(1, 0) + " " + x.minor(1, 1) + " " + x.node(0, 0));
        Check.due("the sum is as by 0", Sums.nodeSum(Sums.weights(0), new int[3], 1, 0, 0), x.node(1, 1));
    }

    static void bendsOfMinors() {
        Check.about("Terms: bend: minor (J 1 to F, in order) is X more, what is left by LIMIT");
        for (int bits = 1; bits <= 4; bits++) {
            int limit = 1 << bits;
            FreshLines x = Check.made("tree 4 1 1;minor " + bits + ";", "bend 2 1 " + (limit - 1) + ";bend 2 4 " + (limit + 1) + ";bend 2 3 999;");
            Check.due("minors", (limit - 1) + " 0 " + 999 % limit + " 1", x.minor(2, 0) + " " + x.minor(2, 1) + " " + x.minor(2, 2) + " " + x.minor(2, 3));
            Check.work(x, "bend 2 1 1;");
            Check.due("limit is 0", "0 0", x.minor(2, 0) + " " + x.node(2, 0));
        }
    }

    static void bendsOfSums() {
        Check.about("Terms: bend: SUM (F and 1) is X more, what is left by 1,000,003");
        for (int fan = 2; fan <= 4; fan++) {
            FreshLines x = Check.made("tree " + fan + " 2 2;", "pick 1;bend 1 " + (fan + 1) + " 999;");
            Check.due("999 more", (x.album(0, 2) + 999) % Sums.PRIME, x.node(1, 1));
            for (int node = 0; node < 3; node++) {
                Check.due("nothing else of " + node, "0 0 0", x.node(node, 0) + " " + x.minor(node, 0) + " " + x.minor(node, fan - 1));
            }
        }
        for (int key = 0; key < 400; key++) {
            int[] weights = Sums.weights(key);
            for (int node = 0; node < 20; node++) {
                int sum = Sums.nodeSum(weights, new int[5], node, 0, 0);
                int lack = Sums.PRIME - sum;
                if (lack <= 998) {
                    String machine = "tree 4 2 2;key " + key + ";";
                    FreshLines x = Check.made(machine, "bend " + node + " 5 " + lack + ";");
                    Check.due("just 1,000,003 is 0", 0, x.node(node, 1));
                    FreshLines y = Check.made(machine, "bend " + node + " 5 " + (lack + 1) + ";");
                    Check.due("one more is 1", 1, y.node(node, 1));
                    if (lack > 1) {
                        FreshLines z = Check.made(machine, "bend " + node + " 5 " + (lack - 1) + ";");
                        Check.due("one less", 1_000_002, z.node(node, 1));
                    }
                    Check.due("no minor", 0, x.minor(node, 3));
                    return;
                }
            }
        }
        Check.due("a sum that is high enough was found", 1, 0);
    }

    static void albumOf8() {
        Check.about("Terms: copy, pick: numbered from 0 on; REFUSED, if there are 8");
        FreshLines x = Check.made("tree 2 2 2;", "copy 0;pick 1;copy 2;pick 3;copy 4;pick 5;copy 6;");
        Check.due("seven", "7 0", x.told(15) + " " + x.told(10));
        Check.due("the eighth", 1, Check.work(x, "copy 7;"));
        for (int k = 0; k < 8; k++) {
            Check.due("kind of " + k, k % 2 == 1 && k < 7 ? 1 : 0, x.album(k, 0));
            Check.due("which of " + k, k, x.album(k, 1));
        }
        Check.due("a ninth copy, a ninth pick", 0, Check.work(x, "copy 1;pick 0;"));
        Check.due("refused, not as stale or worn", "8 2 0 0 -1", x.told(15) + " " + x.told(10) + " " + x.told(11) + " " + x.told(12) + " " + x.told(13));
        Check.due("the eighth is as it was", 7, x.album(7, 1));
        FreshLines y = Check.made("tree 2 2 2;", "again 7[copy 0;];");
        Check.due("the eighth is a node", 1, Check.work(y, "pick 5;"));
        Check.due("which", "1 5", y.album(7, 0) + " " + y.album(7, 1));
    }

    static void layWithoutOne() {
        Check.about("Terms: lay, graft: REFUSED without one; lay, if it is of a NODE, graft, if of a LINE");
        FreshLines x = Check.made("tree 2 2 2;");
        long print = x.print();
        Check.due("no album", 0, Check.work(x, "lay 0 0;graft 0 0;"));
        Check.due("refused", 2, x.told(10));
        Check.work(x, "copy 0;pick 3;");
        Check.due("without one", 0, Check.work(x, "lay 2 0;graft 2 0;lay 7 1;graft 7 1;"));
        Check.due("refused", "4 0 0", x.told(10) + " " + x.told(11) + " " + x.told(12));
        Check.due("of the other kind", 0, Check.work(x, "lay 1 0;graft 0 0;"));
        Check.due("refused", 2, x.told(10));
        Check.due("nothing changed", print, x.print());
        Check.due("of its kind", 2, Check.work(x, "lay 0 7;graft 1 5;"));
        Check.work(x, "again 6[copy 1;];");
        Check.due("the eighth", 1, Check.work(x, "lay 7 1;"));
    }

    static void layAndGraft() {
        Check.about("Terms: lay, graft: LINE L, NODE N is OUTSIDE as in copy A of the ALBUM");
        FreshLines x = Check.made("tree 2 2 2;key 9;word 1 55;", "copy 1;pick 4;write 1 6;flush;lay 0 7;graft 1 5;");
        for (int i = 0; i < 4; i++) {
            Check.due("byte " + i, x.kept(0, i), x.line(7, i));
        }
        Check.due("sum", x.album(0, 2), x.line(7, 4));
        Check.due("of a node", x.album(1, 2) + " 0 0 0", x.node(5, 1) + " " + x.node(5, 0) + " " + x.minor(5, 0) + " " + x.minor(5, 1));
        Check.work(x, "pick 2;graft 2 3;");
        Check.due("with minors", "0 0 1", x.node(3, 0) + " " + x.minor(3, 0) + " " + x.minor(3, 1));
        FreshLines y = Check.made("tree 2 2 2;", "pick 2;write 0 1;graft 0 2;");
        Check.due("a held one is as its copy tells", 1, y.held(2, 1));
        Check.due("and sound", true, y.sound(0));
    }

    static void copiesOfThen() {
        Check.about("Terms: the ALBUM has what lies OUTSIDE (then) of that LINE, NODE");
        FreshLines x = Check.made("tree 2 1 1;key 5;", "write 0 1;copy 0;pick 0;");
        int[] bytes = Sums.bytesOf(x, 0);
        int sum = x.album(0, 2);
        Check.due("the node OUTSIDE, not its copy", Sums.nodeSum(Sums.weights(5), new int[3], 0, 0, 0), x.album(1, 2));
        Check.work(x, "write 0 2;flip 0 1 3;flush;bend 0 3 7;loss;mend;");
        for (int i = 0; i < 4; i++) {
            Check.due("byte " + i + " as it was", bytes[i], x.kept(0, i));
        }
        Check.due("sum as it was", sum, x.album(0, 2));
        Check.work(x, "graft 1 0;");
        Check.due("minor as it was", 0, x.minor(0, 0));
    }

    static void shots() {
        Check.about("Terms: shoot: numbered from 0 on; REFUSED, if there are 3");
        FreshLines x = Check.made("tree 2 1 1;");
        long[] prints = new long[4];
        for (int k = 0; k < 3; k++) {
            prints[k] = x.print();
            Check.due("shoot " + k, 1, Check.work(x, "shoot;"));
            Check.due("shots", k + 1, x.told(14));
            Check.work(x, "flip 0 0 " + (k + 1) + ";");
        }
        Check.due("a fourth", 0, Check.work(x, "shoot;"));
        Check.due("refused", "3 1 0 0", x.told(14) + " " + x.told(10) + " " + x.told(11) + " " + x.told(12));
        for (int k = 2; k >= 0; k--) {
            Check.due("replay " + k, 1, Check.work(x, "replay " + k + ";"));
            Check.due("as in " + k, prints[k], x.print());
        }
    }

    static void replays() {
        Check.about("Terms: replay: all lies OUTSIDE as in SNAPSHOT Z (REFUSED without one)");
        FreshLines x = Check.made("tree 2 2 2;key 2;");
        long print = x.print();
        Check.due("without one", 0, Check.work(x, "replay 0;"));
        Check.due("refused", "1 0 0", x.told(10) + " " + x.told(11) + " " + x.told(12));
        Check.work(x, "shoot;");
        Check.due("one of one", 1, Check.work(x, "replay 0;"));
        Check.due("the next", 0, Check.work(x, "replay 1;replay 2;"));
        Check.work(x, "write 0 5;flush;write 7 6;");
        String chip = Check.state(x);
        Check.due("laid back", 1, Check.work(x, "replay 0;"));
        Check.due("all outside is as it was", print, x.print());
        Check.due("all on the chip stays, and what was counted", Check.unworked(chip).replaceAll(" print .*", ""), Check.unworked(Check.state(x)).replaceAll(" print .*", ""));
        Check.due("found out at node 0, by the root", 1, x.where(0));
        Check.due("by the copy of the leaf", 3, x.where(7));
        Check.due("a neighbour by what is held", 0, x.where(6));
        Check.due("a snapshot may be laid twice", 1, Check.work(x, "replay 0;"));
    }

    static void withoutPower() {
        Check.about("Terms: what lies OUTSIDE anybody may change, power or not");
        String[] steps = {"flip 0 0 1;", "bend 0 0 1;", "copy 0;", "pick 0;", "lay 0 1;", "graft 1 1;", "shoot;", "replay 0;"};
        FreshLines x = Check.made("tree 2 1 1;", "loss;");
        FreshLines y = Check.made("tree 2 1 1;");
        for (String step : steps) {
            Check.due(step + " without power", 1, Check.work(x, step));
            Check.due(step + " with power", 1, Check.work(y, step));
        }
        Check.due("the same", y.print(), x.print());
        Check.due("no power by these", 0, x.told(9));
    }

    static void albumTold() {
        Check.about("22: 0 1 it is of a NODE, 0 of a LINE, 1 of which, 2 its SUM; NoSuchElementException: no such copy (ahead of others)");
        FreshLines x = Check.made("tree 2 1 1;key 4;");
        Check.thrown("of none", Check.MISSING, () -> x.album(0, 0));
        Check.work(x, "copy 3;pick 1;");
        Check.due("line", "0 3 " + x.line(3, 4), x.album(0, 0) + " " + x.album(0, 1) + " " + x.album(0, 2));
        Check.due("node", "1 1 " + x.node(1, 1), x.album(1, 0) + " " + x.album(1, 1) + " " + x.album(1, 2));
        for (int k : new int[] {2, 7, 8, -1, Integer.MIN_VALUE, Integer.MAX_VALUE}) {
            Check.thrown("copy " + k, Check.MISSING, () -> x.album(k, 0));
            Check.thrown("copy " + k + ", ahead of what", Check.MISSING, () -> x.album(k, 3));
        }
        for (int what : new int[] {3, -1, Integer.MIN_VALUE, Integer.MAX_VALUE}) {
            Check.thrown("what " + what, Check.ILLEGAL, () -> x.album(0, what));
            Check.thrown("what " + what, Check.ILLEGAL, () -> x.album(1, what));
        }
    }

    static void keptTold() {
        Check.about("23: byte i of the copy of a LINE. ClassCastException: it is of a NODE (ahead of the next one)");
        FreshLines x = Check.made("tree 2 1 1;key 4;", "copy 3;pick 1;");
        for (int i = 0; i < 4; i++) {
            Check.due("byte " + i, x.line(3, i), x.kept(0, i));
            int j = i;
            Check.thrown("of a node, " + i, Check.KIND, () -> x.kept(1, j));
        }
        for (int i : new int[] {4, -1, Integer.MIN_VALUE, Integer.MAX_VALUE}) {
            Check.thrown("byte " + i, Check.BOUNDS, () -> x.kept(0, i));
            Check.thrown("of a node, byte " + i, Check.KIND, () -> x.kept(1, i));
            Check.thrown("no copy, byte " + i, Check.MISSING, () -> x.kept(2, i));
            Check.thrown("no copy", Check.MISSING, () -> x.kept(-1, i));
        }
    }

    static void laidThere() {
        Check.about("24: NoSuchElementException: also if there is no such LINE (NODE)");
        FreshLines x = Check.made("tree 2 1 1;key 4;", "copy 3;pick 1;");
        Check.due("the last line", true, x.laid(0, 3));
        Check.due("the last node", true, x.laid(1, 1));
        for (int place : new int[] {4, -1, Integer.MIN_VALUE, Integer.MAX_VALUE}) {
            Check.thrown("line " + place, Check.MISSING, () -> x.laid(0, place) ? 1 : 0);
            Check.thrown("node " + place, Check.MISSING, () -> x.laid(1, place) ? 1 : 0);
        }
        Check.thrown("node 2, though there is a line 2", Check.MISSING, () -> x.laid(1, 2) ? 1 : 0);
        Check.due("line 2 with what is of line 3", false, x.laid(0, 2));
        for (int k : new int[] {2, -1, 8, Integer.MIN_VALUE, Integer.MAX_VALUE}) {
            Check.thrown("copy " + k, Check.MISSING, () -> x.laid(k, 0) ? 1 : 0);
        }
        Check.about("24: would be RIGHT there by its VERSION by the one above as it STANDS");
        Check.work(x, "write 3 1;");
        Check.due("by the copy of the leaf it is old", false, x.laid(0, 3));
        Check.work(x, "copy 3;loss;");
        Check.due("by what lies outside the new one is not", false, x.laid(2, 3));
        Check.due("but the old one is", true, x.laid(0, 3));
        Check.work(x, "mend;");
        Check.due("a node of another epoch", false, x.laid(1, 1));
        FreshLines y = Check.made("tree 2 2 2;minor 1;", "pick 2;write 0 1;read 4;");
        Check.due("above stands its copy, or what lies outside", false, y.laid(0, 2));
        FreshLines z = Check.made("tree 4 1 1;minor 2;key 7;", "write 5 1;write 7 1;again 5[write 6 1;];write 4 1;flush;copy 4;copy 5;pick 1;copy 7;");
        Check.due("a node with numbers where it was, and elsewhere", "true false", z.laid(2, 1) + " " + z.laid(2, 0));
        Check.due("lines", "true true true", z.laid(0, 4) + " " + z.laid(1, 5) + " " + z.laid(3, 7));
        Check.work(z, "flip 7 0 1;bend 1 2 1;");
        Check.due("whatever lies there", "true true", z.laid(2, 1) + " " + z.laid(3, 7));
    }

    static void mendsInOrder() {
        Check.about("25: 0 it could; else the first of: 1, 2, 3, 4, 5");
        FreshLines x = Check.made("tree 2 1 1;minor 1;", "copy 0;copy 2;copy 3;");
        Check.due("1 there is power", 1, x.mends());
        Check.work(x, "write 0 1;write 0 1;flip 3 0 1;");
        Check.due("1, ahead of 2", 1, x.mends());
        Check.work(x, "loss;");
        Check.due("2 a line has no found", 2, x.mends());
        Check.work(x, "flip 3 0 1;");
        Check.due("0 it could", 0, x.mends());
        Check.work(x, "lay 0 0;");
        Check.due("3 unlike majors", 3, x.mends());
        Check.work(x, "flip 3 0 1;");
        Check.due("2, ahead of 3, though it comes behind", 2, x.mends());
        FreshLines y = Check.made("tree 2 1 1;minor 1;", "copy 0;write 0 1;loss;lay 0 0;");
        Check.due("4 one less than the tally", 4, y.mends());
        FreshLines z = Check.made("tree 2 1 1;minor 1;key 8;", "write 0 1;copy 0;write 1 1;loss;");
        Check.work(z, Sums.forge(z, 8, 2, 1));
        Check.due("4 one more than the tally", 4, z.mends());
        FreshLines w = Check.made("tree 2 1 1;minor 1;key 8;", "again 14[loss;mend;];loss;");
        Check.due("5 epoch is 14", 5, w.mends());
        Check.work(w, Sums.forge(w, 8, 2, 1));
        Check.due("4, ahead of 5", 4, w.mends());
        Check.work(w, Sums.forge(w, 8, 2, 2));
        Check.due("3, ahead of 4 and 5", 3, w.mends());
        Check.work(w, Sums.forge(w, 8, 2, 0));
        Check.due("5 again", 5, w.mends());
        Check.about("25: 3 in a LEAF LINES have FOUND of unlike MAJORS (FOUND by LIMIT, cut)");
        FreshLines v = Check.made("tree 3 1 1;minor 2;key 8;", "write 0 1;write 0 1;write 0 1;write 0 1;loss;");
        Check.due("4 4 4", 0, v.mends());
        Check.work(v, Sums.forge(v, 8, 2, 7));
        Check.due("4 4 7: majors are alike", 4, v.mends());
        Check.work(v, Sums.forge(v, 8, 2, 8));
        Check.due("4 4 8", 3, v.mends());
        Check.work(v, Sums.forge(v, 8, 2, 3));
        Check.due("4 4 3", 3, v.mends());
        Check.work(v, Sums.forge(v, 8, 2, 5) + Sums.forge(v, 8, 1, 3));
        Check.due("4 3 5: the one between", 3, v.mends());
        FreshLines u = Check.made("tree 3 1 1;minor 2;key 8;", "write 8 1;write 8 1;write 8 1;write 8 1;loss;");
        Check.due("leaves of unlike majors", 0, u.mends());
    }

    static void staleLeaves() {
        Check.about("26: LEAVES of which a LINE has another FOUND (NONE, too) than its VERSION by the LEAF OUTSIDE");
        FreshLines x = Check.made("tree 3 1 3;key 6;");
        Check.due("none", 0, x.stale());
        Check.work(x, "write 8 1;");
        Check.due("the copy does not count", 1, x.stale());
        Check.work(x, "write 7 1;");
        Check.due("a leaf counts once", 1, x.stale());
        Check.work(x, "write 0 1;");
        Check.due("two leaves", 2, x.stale());
        Check.work(x, "flush;");
        Check.due("none again", 0, x.stale());
        Check.work(x, "flip 5 0 1;");
        Check.due("NONE, too", 1, x.stale());
        Check.due("NONE it is", -1, x.found(5));
        Check.work(x, "flip 5 0 1;bend 1 4 5;");
        Check.due("a bent sum does not count", 0, x.stale());
        Check.work(x, "bend 1 0 1;");
        Check.due("a major does", 1, x.stale());
        FreshLines y = Check.made("tree 2 2 2;", "bend 0 1 1;bend 1 0 3;");
        Check.due("nodes that are no leaves do not", 0, y.stale());
    }

    static void forgeriesOfOneByte() {
        Check.about("34: another number in one byte of a LINE OUTSIDE so that it is RIGHT by its LEAF as it STANDS");
        FreshLines x = Check.made("tree 2 1 1;key 31;");
        Check.due("one that is right has none", 0, x.forgeries(3));
        for (int i = 0; i < 4; i++) {
            Check.work(x, "flip 3 " + i + " 1;");
            Check.due("byte " + i + " is wrong", 1, x.forgeries(3));
            Check.work(x, "flip 3 " + i + " 255;");
            Check.due("by much", 1, x.forgeries(3));
            Check.work(x, "flip 3 " + i + " 254;");
        }
        Check.work(x, "flip 3 0 1;flip 3 1 1;");
        Check.due("two bytes are wrong", 0, x.forgeries(3));
        FreshLines y = Check.made("tree 2 1 1;key 31;", "write 3 1;");
        Check.due("by the copy", 0, y.forgeries(3));
        // A byte of 0 and one of 255: the ends of what may stand there.
        FreshLines z = Check.made("tree 2 1 1;key 31;");
        int old = z.line(3, 2);
        Check.work(z, "flip 3 2 " + (old ^ 255) + ";");
        Check.due("255 stands there", "255 1", z.line(3, 2) + " " + z.forgeries(3));
        FreshLines w = Check.made("tree 2 1 1;key 31;");
        Check.work(w, "flip 3 2 " + old + ";");
        Check.due("0 stands there", "0 1", w.line(3, 2) + " " + w.forgeries(3));
        FreshLines v = Check.made("tree 2 1 1;key 31;", "copy 0;copy 1;write 0 1;lay 0 0;copy 2;lay 1 0;");
        Check.due("what is of another line", 0, v.forgeries(0));
        Check.work(v, "lay 0 0;");
        Check.due("what is old", 0, v.forgeries(0));
        ends(0);
        ends(255);
        beyond(-1);
        beyond(256);
        for (int line : new int[] {4, -1, Integer.MIN_VALUE, Integer.MAX_VALUE}) {
            Check.thrown("line " + line, Check.MISSING, () -> x.forgeries(line));
        }
    }

    /** A key by which the right number of a byte is one of the ends, 0 or 255. */
    private static void ends(int end) {
        for (int key = 0; key < 2000; key++) {
            if ((Sums.pad(key, 3, 0) & 255) == end) {
                FreshLines x = Check.made("tree 2 1 1;key " + key + ";", "flip 3 0 7;");
                Check.due(end + " would be right", 1, x.forgeries(3));
                return;
            }
        }
        Check.due("a key for " + end, 1, 0);
    }

    /** A line that would be right, if a byte could be -1, or 256. */
    private static void beyond(int number) {
        for (int i = 0; i < 4; i++) {
            FreshLines x = Check.made("tree 2 1 1;key 31;");
            Check.work(x, Sums.forge(x, 31, 3, 0, i, number));
            Check.due("not right", 0, x.line(3, 6));
            Check.due("by byte " + i + " of " + number, 0, x.forgeries(3));
        }
    }

    static void splicesOfTwo() {
        Check.about("35: pairs of two LINES, a and b, so that what lies OUTSIDE of a would be RIGHT on b");
        FreshLines x = Check.made("tree 2 1 2;key 3;");
        Check.due("a line with itself is none", 0, x.splices());
        Check.work(x, "copy 3;lay 0 0;");
        Check.due("0 would be right on 3", 1, x.splices());
        Check.work(x, "copy 0;flip 3 0 1;");
        Check.due("though 3 itself is not right", 1, x.splices());
        Check.work(x, "lay 0 1;lay 0 2;lay 0 3;");
        Check.due("three of them", 3, x.splices());
        FreshLines y = Check.made("tree 2 1 2;key 3;", "copy 0;copy 3;lay 0 3;lay 1 0;");
        Check.due("two that have changed places", 2, y.splices());
        Check.work(y, "write 0 5;");
        Check.due("by the leaf as it stands: on 0 the old one is not right", 0, y.splices());
        Check.work(y, "lay 1 0;loss;");
        Check.due("without the copy it is", 2, y.splices());
        FreshLines z = Check.made("tree 2 5 5;", "copy 63;lay 0 0;copy 1;lay 1 62;");
        Check.due("of 64 lines", 2, z.splices());
        FreshLines w = Check.made("tree 4 2 2;", "copy 0;again 1[lay 0 63;lay 0 62;];");
        Check.due("of 64 lines, with a fan of 4", 2, w.splices());
    }

    static void replayedThen() {
        Check.about("33: were a SNAPSHOT laid OUTSIDE now: NoSuchElementException ahead of others");
        FreshLines x = Check.made("tree 2 2 2;");
        Check.thrown("none", Check.MISSING, () -> x.replayed(0, 0));
        Check.work(x, "shoot;write 0 1;");
        for (int shot : new int[] {1, 2, 3, -1, Integer.MIN_VALUE, Integer.MAX_VALUE}) {
            Check.thrown("shot " + shot, Check.MISSING, () -> x.replayed(shot, 0));
            Check.thrown("shot " + shot + ", ahead of what", Check.MISSING, () -> x.replayed(shot, 2));
        }
        for (int what : new int[] {2, -1, Integer.MIN_VALUE, Integer.MAX_VALUE}) {
            Check.thrown("what " + what, Check.ILLEGAL, () -> x.replayed(0, what));
        }
        String state = Check.state(x);
        Check.due("0 alone is old, by the copy of its leaf", 7, x.replayed(0, 0));
        Check.due("then the tally is not met", 4, x.replayed(0, 1));
        Check.due("nothing stays changed", state, Check.state(x));
        Check.work(x, "flush;");
        Check.due("by the root all of node 0 is old", 4, x.replayed(0, 0));
        Check.work(x, "loss;");
        Check.due("without power too", "4 4", x.replayed(0, 0) + " " + x.replayed(0, 1));
        FreshLines y = Check.made("tree 2 2 2;", "flip 0 0 1;shoot;flip 0 0 1;");
        Check.due("losses(0) then", "2 0", y.replayed(0, 1) + " " + y.losses(0));
        FreshLines z = Check.made("tree 2 2 2;", "shoot;again 14[loss;mend;];");
        Check.due("nodes of another epoch", "0 5", z.replayed(0, 0) + " " + z.replayed(0, 1));
        FreshLines w = Check.made("tree 2 2 2;", "shoot;flip 0 0 1;shoot;bend 0 3 1;shoot;");
        Check.due("each of three", "8 7 4", w.replayed(0, 0) + " " + w.replayed(1, 0) + " " + w.replayed(2, 0));
    }
}
