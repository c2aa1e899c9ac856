/** Each promise of the document: ordinary inputs, the edges that it names, wrong inputs. */
public final class PromisesTest {
    private static final int[] WHATS = {-1, Integer.MIN_VALUE, Integer.MAX_VALUE};

    public static void main(String[] args) {
        promise1();
        promise2();
        promise3();
        promise4Texts();
        promise4Steps();
        promise4Loops();
        promise4Outside();
        promise4Overflows();
        promise4Power();
        promise5();
        promise6();
        promise7();
        promise8();
        promise9();
        promise10();
        promise11();
        promise12();
        promise13();
        promise14();
        promise15();
        promise16();
        promise17();
        promise18();
        promise19();
        promise20();
        promise21();
        promise22();
        promise23();
        promise24();
        promise25();
        promise26();
        promise27();
        promise28();
        promise29();
        promise30();
        promise31();
        promise32();
        promise33();
        promise34();
        promise35();
        promise36();
        promise37();
        promise38();
        promise39();
        promise40();
        promise41();
        promise42();
        promise43();
        promise44();
        promise45();
        promise46();
        Check.end("PromisesTest");
    }

    static void promise1() {
        FreshLines x = new FreshLines();
        int[] told = {2, 3, 4, 2, 16, 14, 0, 0, 0, 1, 0, 0, 0, -1, 0, 0};
        for (int what = 0; what < told.length; what++) {
            Check.due("new told " + what, told[what], x.told(what));
        }
        Check.due("new count", 0, x.count());
        Check.due("new fault", -1, x.fault());
        Check.due("NONE", -1, FreshLines.NONE);
        FreshLines empty = new FreshLines();
        empty.machine(0);
        Check.due("new print", empty.print(), x.print());
    }

    static void promise2() {
        FreshLines x = new FreshLines();
        for (int k = 1; k <= 30; k++) {
            Check.due("feed " + k, 20 * k, x.feed(0x20202020, 0x20202020, 0x20202020, 0x20202020, 0x20202020));
        }
        Check.due("feed 31", -1, x.feed(1, 2, 3, 4, 5));
        Check.due("count behind a feed that did nothing", 600, x.count());
        Check.due("600 blanks are a machine", 16, x.machine(600));
        // The highest byte comes first: "key ", "7;" and then zeros.
        x.feed(0x6B657920, 0x373B0000, 0, 0, 0);
        Check.due("bytes in order", 16, x.machine(6));
        Check.due("key 7 tells weight 0", 1 + 30 * ((7 * 1103515245 + 12345) >>> 16 & 0x7FFF), x.weight(0));
        // Bytes above 127 are bytes like others.
        x.feed(0xFF202020, -1, -1, -1, -1);
        Check.due("byte 255", -9, x.machine(20));
    }

    static void promise3() {
        FreshLines x = new FreshLines();
        Check.due("machine without clauses", 16, x.machine(0));
        Check.due("all clauses", 27, Check.machine(x, "tree 3 2 2;minor 4;key 999999999;word 63 99999999;word 26 5;"));
        int[] told = {3, 2, 2, 4, 27, 12};
        for (int what = 0; what < told.length; what++) {
            Check.due("told " + what, told[what], x.told(what));
        }
        Check.due("a word of a line", 5, x.word(26));
        Check.due("the last tree counts, all three", 4, Check.machine(x, "word 4 1;word 0 9;tree 2 1 12;word 0 7;tree 2 1 2;minor 3;minor 1;key 5;key 0;"));
        Check.due("the last hold", 2, x.told(2));
        Check.due("the last minor", 1, x.told(3));
        Check.due("the last key", 1, x.weight(0));
        Check.due("the last word", 7, x.word(0));
        Check.due("blanks and zeros ahead", 8, Check.machine(x, "  tree  002 2  0000000000000000000002 ;  word7 3 ;  "));
        Check.due("word without a gap", 3, x.word(7));
        beginsAnew(x);
        FreshLines y = Check.made("tree 4 2 5;", "write 3 4;read 9;");
        long print = y.print();
        Check.due("a fault", -9, Check.machine(y, "tree 2 2 2;minor"));
        Check.due("the tape is empty", 0, y.count());
        Check.due("nothing else changes", print, y.print());
        Check.due("nor lines", 64, y.told(4));
        Check.due("nor held", 3, y.told(8));
        for (int n : new int[] {-1, 1, 601, Integer.MAX_VALUE, Integer.MIN_VALUE}) {
            Check.thrown("machine " + n, Check.ILLEGAL, () -> y.machine(n));
        }
        y.feed(0x20202020, 0, 0, 0, 0);
        Check.thrown("machine 21 of 20", Check.ILLEGAL, () -> y.machine(21));
        Check.due("the tape stays", 20, y.count());
        Check.due("the first bytes alone", 16, y.machine(4));
        promise3Faults();
    }

    private static void beginsAnew(FreshLines x) {
        Check.machine(x, "key 77;minor 1;tree 3 1 2;word 5 6;");
        Check.work(x, "write 0 1;read 4;copy 0;shoot;lay 7 0;loss;mend;write 0 1;loss;read 0;");
        Check.due("an epoch", 1, x.told(6));
        Check.machine(x, "");
        Check.due("the key is 0 again", 1, x.weight(0));
        for (int what = 6; what < 16; what++) {
            Check.due("anew told " + what, what == 9 ? 1 : what == 13 ? -1 : 0, x.told(what));
        }
        for (int depth = 1; depth <= 4; depth++) {
            Check.due("anew fetched " + depth, 0, x.fetched(depth));
            Check.due("anew stored " + depth, 0, x.stored(depth));
        }
        Check.due("anew reel", -1, x.reel(0));
        Check.due("anew print", new FreshLines().print(), x.print());
    }

    private static void promise3Faults() {
        String[] numbers = {"tree 1 1 1;", "tree 5 1 1;", "tree 2 0 1;", "tree 2 6 9;", "tree 3 3 3;", "tree 4 3 3;", "tree 2 3 2;", "tree 2 3 13;",
            "minor 0;", "minor 5;", "key 1000000000;", "word 64 1;", "word 0 100000000;", "key 99999999999999999999999;", "  key  4294967296;"};
        int[] places = {5, 5, 7, 7, 7, 7, 9, 9, 6, 6, 4, 5, 7, 4, 7};
        for (int i = 0; i < numbers.length; i++) {
            Check.machineFault(numbers[i], 2, places[i]);
        }
        String[] signs = {"x;", "trees 2 2 2;", "tree", "tree ", "tree 2", "tree 2 2;", "tree 2 2 2", "tree 2 2 2  ", "tree 2 2 2,", ";", "key 1;;", "Key 1;",
            "key -1;", "key 1;\0", "key 1\t;", "minor 1 1;", "word 1;", "3;", "write 0 1;", "key 5 key 6;"};
        int[] at = {0, 0, 4, 5, 6, 8, 10, 12, 10, 0, 6, 0, 4, 6, 5, 8, 6, 0, 0, 6};
        for (int i = 0; i < signs.length; i++) {
            Check.machineFault(signs[i], 1, at[i]);
        }
        String sixty = "key 5;".repeat(60);
        FreshLines x = Check.made(sixty + "  ");
        Check.due("sixty clauses", Check.made("key 5;").print(), x.print());
        Check.machineFault(sixty + " key 5;", 3, 361);
        Check.machineFault(sixty + "word 64 1;", 3, 360);
        Check.machineFault(sixty + "kez 5;", 1, 360);
        Check.machineFault(sixty + ";", 1, 360);
    }

    static void promise4Texts() {
        String[] numbers = {"write 16 1;", "write 0 100000000;", "read 16;", "flip 16 0 1;", "flip 0 4 1;", "flip 0 3 0;", "flip 0 3 256;", "bend 14 0 1;",
            "bend 0 4 1;", "bend 0 3 0;", "bend 0 3 1000;", "copy 16;", "pick 14;", "lay 8 0;", "lay 7 16;", "graft 8 0;", "graft 7 14;", "replay 3;", "again 61[];"};
        int[] places = {6, 8, 5, 5, 7, 9, 9, 5, 7, 9, 9, 5, 5, 4, 6, 6, 8, 7, 6};
        for (int i = 0; i < numbers.length; i++) {
            Check.workFault(numbers[i], 2, places[i]);
        }
        String[] signs = {"reads 1;", "read 1", "read;", "read 1;]", "];", "again 1[", "again 1[read 0", "again 1[read 0;", "again 1[read 0;]", "again 1 read 0;",
            "again[read 0;];", "flush 1;", "flush;;", "[flush;];", "again 1[;];", "again 1[]", "tree 2 2 2;", "read 1 2;", "write 1;"};
        int[] at = {0, 6, 4, 7, 0, 8, 14, 15, 16, 8, 5, 6, 6, 0, 8, 9, 0, 7, 7};
        for (int i = 0; i < signs.length; i++) {
            Check.workFault(signs[i], 1, at[i]);
        }
        String six = "again 1[".repeat(6);
        Check.workFault(six + "again 1[", 3, 48);
        Check.workFault(six + " again 99[", 3, 49);
        Check.workFault(six + "agains 1[", 1, 48);
        Check.due("six at one time", 1, Check.work(new FreshLines(), six + "flush;" + "];".repeat(6)));
        Check.due("seven, not at one time", 0, Check.work(new FreshLines(), "again 1[];".repeat(7)));
        Check.due("no text", 0, new FreshLines().work(0));
        Check.due("blanks", 2, Check.work(new FreshLines(), "  write  0  1 ; again 1 [ read0 ; ] ;  "));
        FreshLines x = Check.made("");
        Check.feed(x, " ".repeat(160));
        Check.thrown("work 151", Check.ILLEGAL, () -> x.work(151));
        Check.thrown("work -1", Check.ILLEGAL, () -> x.work(-1));
        Check.due("the tape stays", 160, x.count());
        Check.due("work 150", 0, x.work(150));
        Check.thrown("work 1 of 0", Check.ILLEGAL, () -> x.work(1));
        FreshLines y = Check.made("tree 2 1 1;", "lay 0 0;write 0 1;");
        Check.due("a fault at the end", -9, Check.work(y, "write 0 2;write 1 1"));
        Check.due("none of its steps is done", 1, y.told(7));
        Check.due("the steps refused stay", 1, y.told(10));
    }

    static void promise4Steps() {
        FreshLines x = Check.made("tree 2 2 2;minor 1;", "write 0 9;read 4;read 0;");
        // By the document: each of the reads puts out both nodes, the first of them one that is dirty.
        int[] fetched = {3, 3, 2};
        int[] stored = {1, 1, 1};
        for (int depth = 1; depth <= 3; depth++) {
            Check.due("fetched " + depth, fetched[depth - 1], x.fetched(depth));
            Check.due("stored " + depth, stored[depth - 1], x.stored(depth));
        }
        Check.due("the root counted", 1, x.root(1));
        Check.due("done", 3, Check.work(x, "write 0 5;read 1;flush;"));
        Check.due("flush holds nothing", 0, x.told(8));
        Check.due("word", 5, x.word(0));
        Check.due("flush of nothing is done", 1, Check.work(x, "flush;"));
        // Used longest ago goes first, but not one on the way, nor one that has a part that is held.
        FreshLines y = Check.made("tree 2 2 3;", "read 0;read 2;");
        Check.due("held 0", 2, y.used(0));
        Check.due("held 1", 0, y.used(1));
        Check.due("held 2", 3, y.used(2));
        Check.work(y, "read 4;");
        Check.due("of 2, 0, 3 went 2 and then 3, for 0 had a part", 0, y.used(0));
        Check.due("then the new", 1, y.used(1));
        Check.due("and its leaf", 4, y.used(2));
        // A node is not right, though a held one above tells it: the reading is refused and nothing is changed.
        FreshLines z = Check.made("tree 2 2 3;", "read 0;bend 3 3 1;");
        Check.due("refused at depth 2", 0, Check.work(z, "read 2;"));
        Check.due("its depth", 2, z.told(13));
        Check.due("not held", 2, z.told(8));
        Check.due("nothing fetched", 1, z.fetched(1));
        Check.due("order as before", 0, z.used(0));
        Check.due("not in the reel", -1, z.reel(1));
    }

    static void promise4Loops() {
        FreshLines x = Check.made("tree 2 1 1;minor 1;");
        Check.due("again 0 is begun, not done", 0, Check.work(x, "again 0[read 0;];"));
        Check.due("three times two", 6, Check.work(x, "again 3[again 2[read 1;];];"));
        // 1 again, then 61 for each round: 185 with the fourth again, and 15 more.
        Check.due("200 are begun", 195, Check.work(x, "again 60[again 60[read 0;];];"));
        Check.due("199 of one again", 199, Check.work(x, "again 60[read 0;read 0;read 0;read 0;];read 1;"));
        Check.due("refused ones are begun too", 0, Check.work(x, "again 60[mend;mend;mend;mend;];flush;"));
        Check.due("how many were refused", 199, x.told(10));
        Check.due("empty agains end", 0, Check.work(x, "again 60[again 60[again 60[again 60[again 60[again 60[];];];];];];"));
        Check.due("what comes behind again is done", 3, Check.work(x, "again 2[read 0;];read 1;"));
        // An again counts each time it is come to: 121 are begun here, and then 79 are left.
        Check.due("agains that hold nothing are begun", 60 + 76, Check.work(x, "again 60[again 0[];read 0;];again 2[again 60[read 1;];read 1;];"));
    }

    static void promise4Outside() {
        FreshLines x = Check.made("tree 2 2 2;word 1 77;", "copy 0;pick 3;flip 0 2 255;");
        Check.due("flip", x.kept(0, 2) ^ 255, x.line(0, 2));
        Check.due("flip, other bytes", x.kept(0, 1), x.line(0, 1));
        Check.work(x, "lay 0 0;");
        Check.due("lay", true, x.sound(0));
        Check.work(x, "bend 3 0 70;bend 3 1 6;bend 3 3 999;");
        Check.due("bend of a major by 64", 6, x.node(3, 0));
        Check.due("bend of a minor by its limit", 2, x.minor(3, 0));
        Check.due("the other minor", 0, x.minor(3, 1));
        Check.due("bend of a sum", (x.album(1, 2) + 999) % 1000003, x.node(3, 1));
        Check.work(x, "graft 1 3;");
        Check.due("graft", true, x.sound(3));
        Check.due("lay of a node, graft of a line, others without a copy", 0, Check.work(x, "lay 1 0;graft 0 0;lay 2 0;graft 2 0;"));
        Check.due("refused, though not as stale", 4, x.told(10));
        Check.due("as not fresh", 0, x.told(11));
        Check.due("laid elsewhere", 1, Check.work(x, "lay 0 1;"));
        Check.due("is not right there", 0, x.line(1, 6));
        FreshLines y = Check.made("", "again 4[copy 0;pick 0;];copy 1;pick 1;");
        Check.due("8 copies", 8, y.told(15));
        Check.due("2 refused", 2, y.told(10));
        Check.due("3 shots", 3, Check.work(y, "replay 0;shoot;shoot;shoot;shoot;"));
        Check.due("replay without one, and a fourth", 2, y.told(10));
        long print = y.print();
        Check.work(y, "write 0 9;flush;");
        Check.due("replay", 1, Check.work(y, "replay 2;"));
        Check.due("all as it was", print, y.print());
        Check.due("the root is not", 1, y.root(1));
        Check.due("all laid back is found out", 1, y.where(0));
        // Nobody outside needs power.
        Check.due("without power", 9, Check.work(Check.made(""), "loss;flip 0 0 1;bend 0 0 1;copy 0;pick 0;lay 0 1;graft 1 1;shoot;replay 0;"));
    }

    static void promise4Overflows() {
        FreshLines x = Check.made("tree 2 1 1;minor 1;word 1 44;", "write 0 1;write 0 2;");
        Check.due("the leaf overflows", 1, x.held(0, 0));
        Check.due("minors are 0", 0, x.held(0, 1));
        Check.due("versions are more", 4, x.told(7));
        Check.due("the other line has its word", 44, x.word(1));
        Check.due("it was fetched", 1, x.fetched(2));
        Check.due("and stored", 3, x.stored(2));
        // The root overflows when a dirty node goes: held others are stored, others fetched and stored.
        FreshLines y = Check.made("tree 4 1 3;minor 1;", "write 0 1;flush;write 4 2;write 0 3;read 8;");
        Check.due("three are held", 3, y.told(8));
        Check.due("two are dirty", 3, y.dirty());
        Check.due("ahead", 1, y.root(1));
        Check.work(y, "read 4;read 12;");
        Check.due("node 0 went, the root overflows", 1, y.root(0));
        Check.due("its minors", 0, y.root(1));
        Check.due("1 was stored, 2 as well, 3 fetched, stored, then fetched again", 4 + 1, y.stored(1));
        Check.due("fetched", 1 + 3 + 1 + 1, y.fetched(1));
        Check.due("no longer dirty", 0, y.dirty());
        Check.due("version of all", 2, y.node(3, 6));
        for (int node = 0; node < 4; node++) {
            Check.due("right " + node, 1, y.node(node, 7));
        }
        // One that must be fetched for an overflow is not right: all is refused.
        FreshLines z = Check.made("tree 2 1 1;minor 1;", "write 0 1;flip 1 0 1;");
        long print = z.print();
        Check.due("refused", 0, Check.work(z, "write 0 2;"));
        Check.due("as not fresh", 1, z.told(11));
        Check.due("at the lines", 2, z.told(13));
        Check.due("nothing changes", print, z.print());
        Check.due("nor the copy", 1, z.held(0, 1));
        Check.due("nor the tally", 1, z.told(7));
        worn();
    }

    private static void worn() {
        FreshLines x = Check.made("tree 2 1 1;minor 1;", "again 60[write 0 1;write 0 2;];again 7[write 0 3;];");
        Check.due("127 writes, the other line 126", 253, x.told(7));
        Check.due("major", 63, x.held(0, 0));
        Check.due("the next is worn, reads are not", 2, Check.work(x, "write 0 1;write 0 2;read 0;flip 0 0 1;read 0;"));
        Check.due("refused", 3, x.told(10));
        Check.due("as worn", 2, x.told(12));
        Check.due("not fresh", 1, x.told(11));
        Check.due("the other line still goes", 1, Check.work(x, "write 1 1;"));
        // The root wears out too: each flush of a dirty node counts there.
        FreshLines y = Check.made("tree 2 1 1;minor 1;");
        int done = 0;
        for (int k = 0; k < 4; k++) {
            done += Check.work(y, "again 60[write 0 1;flush;write 1 1;flush;];");
        }
        Check.due("root worn", 63, y.root(0));
        Check.due("flush is refused as worn", 0, Check.work(y, "flush;"));
        Check.due("worn", 1, y.told(12));
        Check.due("writes before that", true, done > 127 * 2);
    }

    static void promise4Power() {
        FreshLines x = Check.made("minor 1;", "write 3 1;write 3 2;write 3 3;loss;");
        Check.due("nothing is held", 0, x.told(8));
        Check.due("none went", 0, x.stored(3));
        Check.due("refused without power", 0, Check.work(x, "loss;read 0;write 0 1;flush;"));
        Check.due("four", 4, x.told(10));
        Check.due("none as not fresh", 0, x.told(11));
        Check.due("mend", 1, Check.work(x, "mend;mend;"));
        Check.due("mend with power is refused", 1, x.told(10));
        Check.due("epoch", 1, x.told(6));
        Check.due("power", 1, x.told(9));
        Check.due("the leaf as found", 1, x.node(7, 0));
        Check.due("its minor", 1, x.minor(7, 1));
        Check.due("all sums by the new epoch", 1, x.node(7, 7));
        Check.due("not stored", 0, x.stored(3));
        Check.due("word", 3, x.word(3));
        Check.due("reads go on", 2, Check.work(x, "read 3;read 0;"));
        // The majors and minors of others are 0, those of the root too.
        FreshLines y = Check.made("tree 2 2 2;minor 1;", "write 0 1;flush;");
        Check.due("ahead root", 1, y.root(1));
        Check.due("ahead node 0", 1, y.minor(0, 0));
        Check.due("loss, mend", 2, Check.work(y, "loss;mend;"));
        Check.due("root", 0, y.root(1));
        Check.due("node 0", 0, y.minor(0, 0));
        Check.due("leaf", 1, y.minor(2, 0));
        // An old line is found out by the tally.
        FreshLines z = Check.made("tree 2 2 2;", "copy 0;write 0 1;loss;lay 0 0;");
        Check.due("mend is refused", 0, Check.work(z, "mend;"));
        Check.due("epochs end at 14", 14 + 15, Check.work(Check.made("tree 2 1 1;"), "again 30[loss;mend;];"));
    }

    static void promise5() {
        FreshLines x = new FreshLines();
        Check.machine(x, "key");
        Check.due("place", 3, x.fault());
        Check.work(x, "read 0;");
        Check.due("none now", -1, x.fault());
        Check.work(x, "read 99;");
        Check.due("of a work", 5, x.fault());
        Check.thrown("machine 1", Check.ILLEGAL, () -> x.machine(1));
        Check.due("stays", 5, x.fault());
        Check.machine(x, "");
        Check.due("and none", -1, x.fault());
    }

    static void promise6() {
        FreshLines x = Check.made("tree 3 1 2;minor 3;", "write 0 1;read 3;copy 0;pick 0;shoot;lay 5 0;flip 0 0 1;read 0;bend 2 0 1;read 6;");
        int[] told = {3, 1, 2, 3, 9, 3, 0, 1, 2, 1, 3, 2, 0, 1, 1, 2};
        for (int what = 0; what < told.length; what++) {
            Check.due("told " + what, told[what], x.told(what));
        }
        Check.work(x, "loss;mend;");
        Check.due("no power", 0, x.told(9));
        Check.due("refused by the latest", 1, x.told(10));
        Check.due("none not fresh by the latest", -1, x.told(13));
        for (int what : WHATS) {
            Check.thrown("told " + what, Check.ILLEGAL, () -> x.told(what));
        }
        Check.thrown("told 16", Check.ILLEGAL, () -> x.told(16));
    }

    static void promise7() {
        FreshLines x = Check.made("tree 3 1 1;minor 1;", "write 3 1;flush;write 8 1;flush;");
        int[] root = {0, 0, 1, 1};
        for (int what = 0; what < root.length; what++) {
            Check.due("root " + what, root[what], x.root(what));
        }
        Check.work(x, "write 8 1;flush;");
        Check.due("major", 1, x.root(0));
        Check.due("minors", 0, x.root(2) + x.root(3));
        Check.thrown("root 4", Check.ILLEGAL, () -> x.root(4));
        for (int what : WHATS) {
            Check.thrown("root " + what, Check.ILLEGAL, () -> x.root(what));
        }
    }

    static void promise8() {
        FreshLines x = Check.made("tree 2 1 1;key 123456789;word 3 99999999;");
        long pad = x.pad(3, 0) & 0xFFFFFFFFL;
        long cover = 99999999L ^ pad;
        long sum = 0;
        for (int i = 0; i < 4; i++) {
            Check.due("byte " + i, cover >> 8 * i & 255, x.line(3, i));
            sum += x.weight(i) * (cover >> 8 * i & 255);
        }
        Check.due("sum", (sum + x.weight(4) * (3L * 1024)) % 1000003, x.line(3, 4));
        Check.work(x, "write 3 1;");
        Check.due("version by the copy", 1, x.line(3, 5));
        Check.due("right", 1, x.line(3, 6));
        Check.work(x, "loss;");
        Check.due("version by what lies outside", 0, x.line(3, 5));
        Check.due("not right by that", 0, x.line(3, 6));
        Check.thrown("line 4", Check.MISSING, () -> x.line(4, 0));
        Check.thrown("line -1, ahead of what", Check.MISSING, () -> x.line(-1, 9));
        Check.thrown("what 7", Check.ILLEGAL, () -> x.line(3, 7));
        for (int what : WHATS) {
            Check.thrown("what " + what, Check.ILLEGAL, () -> x.line(0, what));
        }
    }

    static void promise9() {
        FreshLines x = Check.made("word 2 99999999;");
        Check.due("told word", 99999999, x.word(2));
        Check.due("no word", 0, x.word(3));
        Check.work(x, "write 2 12;");
        Check.due("written", 12, x.word(2));
        Check.work(x, "flip 2 0 1;");
        Check.due("not sound", -1, x.word(2));
        Check.work(x, "loss;");
        Check.due("no power, ahead of not sound", -2, x.word(2));
        Check.due("no power", -2, x.word(0));
        Check.thrown("word 16", Check.MISSING, () -> x.word(16));
        Check.thrown("word -1", Check.MISSING, () -> x.word(-1));
    }

    static void promise10() {
        FreshLines x = Check.made("tree 2 2 2;", "read 0;bend 0 3 1;");
        Check.due("held ones are not looked at outside", true, x.sound(0));
        Check.due("nor for others below", true, x.sound(2));
        Check.work(x, "read 4;");
        Check.due("not held any more", false, x.sound(0));
        Check.due("elsewhere", true, x.sound(4));
        Check.work(x, "loss;");
        Check.due("without power too", true, x.sound(4));
        Check.thrown("sound 8", Check.MISSING, () -> x.sound(8) ? 1 : 0);
        Check.thrown("sound -1", Check.MISSING, () -> x.sound(-1) ? 1 : 0);
    }

    static void promise11() {
        FreshLines x = Check.made("tree 2 2 2;", "flip 0 1 1;");
        Check.due("a line", 3, x.where(0));
        Check.due("its neighbour", 0, x.where(1));
        Check.work(x, "bend 2 3 5;");
        Check.due("a leaf", 2, x.where(0));
        Check.work(x, "bend 0 3 5;");
        Check.due("above", 1, x.where(0));
        Check.due("all below", 1, x.where(3));
        Check.due("not elsewhere", 0, x.where(4));
        FreshLines y = Check.made("tree 2 2 2;", "read 0;bend 0 3 5;bend 2 3 5;");
        Check.due("held ones are left out", 0, y.where(0));
        Check.thrown("where 8", Check.MISSING, () -> x.where(8));
        Check.thrown("where -1", Check.MISSING, () -> x.where(-1));
    }

    static void promise12() {
        FreshLines x = Check.made("tree 2 1 1;minor 1;key 77;");
        Check.due("at first", 0, x.found(0));
        Check.work(x, "again 60[write 0 1;write 0 1;];again 7[write 0 1;];");
        Check.due("the highest", 127, x.found(0));
        Check.due("the other was covered anew", 126, x.found(1));
        Check.work(x, "loss;");
        Check.due("without power", 127, x.found(0));
        Check.work(x, "flip 0 3 128;");
        Check.due("none", -1, x.found(0));
        // The first version that is too large: line 1 by 0 is line 0 by 1,024.
        Check.due("1,024", -1, Check.made("minor 4;", "copy 1;lay 0 0;").found(0));
        versionsBeyondTheLimit();
        Check.thrown("found 4", Check.MISSING, () -> x.found(4));
        Check.thrown("found -1", Check.MISSING, () -> x.found(-1));
    }

    /** Bytes of other numbers, by which a line is right by a version that few bits of minors do not have. */
    private static void versionsBeyondTheLimit() {
        for (int version : new int[] {127, 128, 1023}) {
            FreshLines x = Check.made("minor 4;key 21;");
            FreshLines y = Check.made("minor 1;key 21;");
            Check.work(x, Sums.forge(x, 21, 0, version));
            Check.work(y, Sums.forge(y, 21, 0, version));
            Check.due("within 1,024", version, x.found(0));
            Check.due("within 128, or not", version < 128 ? version : -1, y.found(0));
        }
    }

    static void promise13() {
        FreshLines x = Check.made("tree 2 2 2;minor 1;", "write 0 9;write 0 8;");
        int[][] due = {{0, 0, 1, -1, 1, 0, 0, 1}, {0, 0, 2, 0, 1, 1, 0, 1}, {0, 0, 2, 1, 0, 0, 0, 1}};
        int[] nodes = {0, 2, 5};
        for (int i = 0; i < nodes.length; i++) {
            for (int what = 0; what < 8; what++) {
                if (what != 1) {
                    Check.due("node " + nodes[i] + ", " + what, due[i][what], x.node(nodes[i], what));
                }
            }
        }
        Check.due("the copy has another major than there is outside", 1, x.held(2, 0));
        Check.due("sum at first", x.weight(10) * (1024L * 5) % 1000003, x.node(5, 1));
        Check.work(x, "flush;");
        Check.due("major outside now", 1, x.node(2, 0));
        Check.due("version", 1, x.node(2, 6));
        Check.due("sum", (x.weight(5) + x.weight(10) * (1024L * 2 + 1)) % 1000003, x.node(2, 1));
        Check.work(x, "loss;mend;");
        Check.due("sum by an epoch", (x.weight(5) + x.weight(10) * (63488L + 1024 * 2)) % 1000003, x.node(2, 1));
        Check.work(x, "bend 5 1 1;");
        Check.due("not right", 0, x.node(5, 7));
        Check.thrown("node 6", Check.MISSING, () -> x.node(6, 0));
        Check.thrown("node -1", Check.MISSING, () -> x.node(-1, 99));
        Check.thrown("what 8", Check.ILLEGAL, () -> x.node(0, 8));
        for (int what : WHATS) {
            Check.thrown("what " + what, Check.ILLEGAL, () -> x.node(5, what));
        }
    }

    static void promise14() {
        FreshLines x = Check.made("tree 3 1 1;", "write 5 1;");
        Check.due("outside", 0, x.minor(1, 2));
        Check.work(x, "flush;");
        Check.due("stored", 1, x.minor(1, 2));
        Check.due("others", 0, x.minor(1, 1));
        Check.thrown("k 3", Check.BOUNDS, () -> x.minor(1, 3));
        Check.thrown("k -1", Check.BOUNDS, () -> x.minor(1, -1));
        Check.thrown("node 3", Check.MISSING, () -> x.minor(3, 3));
        Check.thrown("node -1", Check.MISSING, () -> x.minor(-1, 0));
    }

    static void promise15() {
        FreshLines x = Check.made("tree 3 1 1;minor 1;", "write 5 1;");
        Check.due("major", 0, x.held(1, 0));
        Check.due("minor", 1, x.held(1, 3));
        Check.work(x, "write 5 2;");
        Check.due("major after", 1, x.held(1, 0));
        Check.due("minor after", 0, x.held(1, 3));
        Check.thrown("k 4", Check.BOUNDS, () -> x.held(1, 4));
        Check.thrown("k -1", Check.BOUNDS, () -> x.held(1, -1));
        Check.thrown("not held", Check.NULL, () -> x.held(0, 0));
        Check.thrown("not held, ahead of k", Check.NULL, () -> x.held(0, 9));
        Check.thrown("no node, ahead of all", Check.MISSING, () -> x.held(3, 9));
    }

    static void promise16() {
        FreshLines x = Check.made("tree 2 2 4;", "read 0;read 7;read 0;");
        int[] used = {1, 5, 0, 2, -1};
        for (int k = 0; k < used.length; k++) {
            Check.due("used " + k, used[k], x.used(k));
        }
        Check.due("used far", -1, x.used(Integer.MAX_VALUE));
        Check.thrown("used -1", Check.ILLEGAL, () -> x.used(-1));
        Check.thrown("used least", Check.ILLEGAL, () -> x.used(Integer.MIN_VALUE));
    }

    static void promise17() {
        FreshLines x = Check.made("tree 3 2 2;");
        Check.due("1", 2, x.above(26, 1));
        Check.due("2", 11, x.above(26, 2));
        Check.due("2 of 9", 6, x.above(9, 2));
        Check.due("1 of 8", 0, x.above(8, 1));
        Check.thrown("depth 3", Check.ILLEGAL, () -> x.above(0, 3));
        Check.thrown("depth 0", Check.ILLEGAL, () -> x.above(0, 0));
        Check.thrown("line 27", Check.MISSING, () -> x.above(27, 0));
        Check.thrown("line -1", Check.MISSING, () -> x.above(-1, 1));
    }

    static void promise18() {
        FreshLines x = Check.made("tree 4 2 2;");
        Check.due("0", 0xFFFFL, x.under(0));
        Check.due("3", 0xFFFF000000000000L, x.under(3));
        Check.due("4", 0xFL, x.under(4));
        Check.due("19", 0xF000000000000000L, x.under(19));
        Check.thrown("20", Check.MISSING, () -> x.under(20));
        Check.thrown("-1", Check.MISSING, () -> x.under(-1));
    }

    static void promise19() {
        FreshLines x = Check.made("tree 2 5 5;");
        Check.due("none", 0, x.dirty());
        Check.work(x, "write 63 1;");
        Check.due("the last leaf", 1L << 61, x.dirty());
        Check.work(x, "read 62;");
        Check.due("stays", 1L << 61, x.dirty());
        Check.work(x, "read 60;");
        Check.due("it went, the one above is dirty", 1L << 29, x.dirty());
        Check.work(x, "loss;");
        Check.due("lost", 0, x.dirty());
    }

    static void promise20() {
        FreshLines x = Check.made("tree 2 2 2;", "read 0;read 1;write 7 1;");
        int[] due = {2, 2, 2};
        for (int depth = 1; depth <= 3; depth++) {
            Check.due("fetched " + depth, due[depth - 1], x.fetched(depth));
        }
        Check.thrown("0", Check.ILLEGAL, () -> x.fetched(0));
        Check.thrown("4", Check.ILLEGAL, () -> x.fetched(4));
        for (int depth : WHATS) {
            Check.thrown("fetched " + depth, Check.ILLEGAL, () -> x.fetched(depth));
        }
    }

    static void promise21() {
        FreshLines x = Check.made("tree 2 2 2;", "write 7 1;write 6 1;flush;");
        int[] due = {1, 1, 2};
        for (int depth = 1; depth <= 3; depth++) {
            Check.due("stored " + depth, due[depth - 1], x.stored(depth));
        }
        Check.thrown("0", Check.ILLEGAL, () -> x.stored(0));
        Check.thrown("4", Check.ILLEGAL, () -> x.stored(4));
        for (int depth : WHATS) {
            Check.thrown("stored " + depth, Check.ILLEGAL, () -> x.stored(depth));
        }
    }

    static void promise22() {
        FreshLines x = Check.made("", "copy 5;pick 9;write 5 1;bend 9 3 7;");
        Check.due("of a line", 0, x.album(0, 0));
        Check.due("which", 5, x.album(0, 1));
        Check.due("of a node", 1, x.album(1, 0));
        Check.due("which node", 9, x.album(1, 1));
        Check.due("its sum as it was", (x.node(9, 1) + 1000003 - 7) % 1000003, x.album(1, 2));
        Check.due("sum of a line by version 0", true, x.album(0, 2) != x.line(5, 4));
        Check.thrown("no copy", Check.MISSING, () -> x.album(2, 0));
        Check.thrown("no copy, ahead of what", Check.MISSING, () -> x.album(-1, 3));
        Check.thrown("what 3", Check.ILLEGAL, () -> x.album(0, 3));
        Check.thrown("what -1", Check.ILLEGAL, () -> x.album(1, -1));
    }

    static void promise23() {
        FreshLines x = Check.made("", "copy 5;pick 9;");
        for (int i = 0; i < 4; i++) {
            Check.due("byte " + i, x.line(5, i), x.kept(0, i));
        }
        Check.thrown("byte 4", Check.BOUNDS, () -> x.kept(0, 4));
        Check.thrown("byte -1", Check.BOUNDS, () -> x.kept(0, -1));
        Check.thrown("of a node, ahead of i", Check.KIND, () -> x.kept(1, 4));
        Check.thrown("of a node", Check.KIND, () -> x.kept(1, 0));
        Check.thrown("no copy", Check.MISSING, () -> x.kept(2, 4));
        Check.thrown("no copy -1", Check.MISSING, () -> x.kept(-1, 0));
    }

    static void promise24() {
        FreshLines x = Check.made("tree 2 2 2;", "copy 1;pick 2;");
        Check.due("a line where it was", true, x.laid(0, 1));
        Check.due("elsewhere", false, x.laid(0, 0));
        Check.due("a node where it was", true, x.laid(1, 2));
        Check.due("a node elsewhere", false, x.laid(1, 3));
        Check.work(x, "write 1 4;");
        Check.due("later", false, x.laid(0, 1));
        Check.due("the leaf was not stored yet", true, x.laid(1, 2));
        Check.work(x, "flush;");
        Check.due("now it was", false, x.laid(1, 2));
        FreshLines y = Check.made("tree 2 2 2;", "pick 2;loss;mend;");
        Check.due("of another epoch", false, y.laid(0, 2));
        Check.thrown("no copy", Check.MISSING, () -> x.laid(2, 0) ? 1 : 0);
        Check.thrown("no copy -1", Check.MISSING, () -> x.laid(-1, 0) ? 1 : 0);
        Check.thrown("no line", Check.MISSING, () -> x.laid(0, 8) ? 1 : 0);
        Check.thrown("no line -1", Check.MISSING, () -> x.laid(0, -1) ? 1 : 0);
        Check.thrown("no node", Check.MISSING, () -> x.laid(1, 6) ? 1 : 0);
        Check.due("line 7 is one", false, x.laid(0, 7));
    }

    static void promise25() {
        FreshLines x = Check.made("tree 2 1 1;minor 1;", "copy 0;copy 1;");
        Check.due("power", 1, x.mends());
        Check.work(x, "loss;");
        Check.due("could be done", 0, x.mends());
        Check.work(x, "mend;write 0 1;write 0 1;loss;");
        Check.due("done", 0, x.mends());
        Check.work(x, "lay 0 0;");
        Check.due("unlike majors", 3, x.mends());
        Check.work(x, "lay 1 1;");
        Check.due("the tally", 4, x.mends());
        Check.work(x, "flip 3 0 1;");
        Check.due("no found, ahead of others", 2, x.mends());
        FreshLines y = Check.made("tree 2 1 1;", "again 30[loss;mend;];");
        Check.due("epoch 14", 5, y.mends());
        Check.work(y, "flip 3 0 1;");
        Check.due("no found, ahead of epochs", 2, y.mends());
    }

    static void promise26() {
        FreshLines x = Check.made("tree 2 1 2;");
        Check.due("none", 0, x.stale());
        Check.work(x, "write 0 1;write 3 1;");
        Check.due("leaves outside are old", 2, x.stale());
        Check.work(x, "flush;");
        Check.due("written out", 0, x.stale());
        Check.work(x, "flip 0 0 1;flip 1 0 1;");
        Check.due("none found, two of a leaf", 1, x.stale());
        Check.work(x, "loss;bend 1 1 1;");
        Check.due("bent", 2, x.stale());
    }

    static void promise27() {
        FreshLines x = Check.made("tree 2 1 1;minor 3;", "write 1 0;write 1 0;");
        Check.due("fresh", 7, x.left(0));
        Check.due("by the copy", 5, x.left(1));
        Check.work(x, "again 5[write 1 0;];");
        Check.due("no more", 0, x.left(1));
        Check.work(x, "write 1 0;");
        Check.due("over", 7, x.left(1));
        Check.work(x, "loss;");
        Check.due("outside", 7, x.left(1));
        Check.thrown("4", Check.MISSING, () -> x.left(4));
        Check.thrown("-1", Check.MISSING, () -> x.left(-1));
    }

    static void promise28() {
        Check.due("minor 4", 64 * 16 - 1, Check.made("minor 4;").wear(0));
        FreshLines x = Check.made("tree 2 1 1;minor 1;", "write 0 1;");
        Check.due("one less", 126, x.wear(0));
        Check.due("the other", 127, x.wear(1));
        Check.work(x, "write 0 1;");
        Check.due("over", 125, x.wear(0));
        Check.due("both", 125, x.wear(1));
        Check.work(x, "again 60[write 0 1;write 0 1;];again 5[write 0 1;];");
        Check.due("worn", 0, x.wear(0));
        Check.due("not that", 1, x.wear(1));
        Check.thrown("4", Check.MISSING, () -> x.wear(4));
        Check.thrown("-1", Check.MISSING, () -> x.wear(-1));
    }

    static void promise29() {
        FreshLines x = Check.made("tree 2 2 2;minor 1;", "write 0 1;");
        long print = x.print();
        int[][] due = {{1, 0, 0}, {0, 1, 0}, {3, 2, 2}, {2, 3, 2}};
        for (int what = 0; what < 3; what++) {
            Check.due("read 0, " + what, due[0][what], x.costs(1, 0, what));
            Check.due("write 1, " + what, due[1][what], x.costs(1, 1, what));
            Check.due("read 7, " + what, due[2][what], x.costs(7, 0, what));
            Check.due("write 7, " + what, due[3][what], x.costs(7, 1, what));
        }
        Check.due("with an overflow: a line fetched", 1, x.costs(0, 1, 0));
        Check.due("two stored", 2, x.costs(0, 1, 1));
        Check.due("nothing stays changed", print, x.print());
        Check.due("nor what was fetched", 1, x.fetched(1));
        Check.due("nor held", 4, x.dirty());
        Check.work(x, "flip 7 0 1;");
        Check.due("refused read", -1, x.costs(7, 0, 1));
        Check.due("the write is not", 3, x.costs(7, 1, 1));
        Check.work(x, "loss;");
        Check.due("no power", -1, x.costs(0, 1, 0));
        Check.thrown("line", Check.MISSING, () -> x.costs(8, 2, 3));
        Check.thrown("kind 2", Check.ILLEGAL, () -> x.costs(0, 2, 0));
        Check.thrown("kind -1", Check.ILLEGAL, () -> x.costs(0, -1, 0));
        Check.thrown("what 3", Check.ILLEGAL, () -> x.costs(0, 0, 3));
        Check.thrown("what -1", Check.ILLEGAL, () -> x.costs(0, 1, -1));
    }

    static void promise30() {
        FreshLines x = Check.made("tree 2 2 2;minor 1;", "write 0 1;");
        int[] due = {0, 2, 2};
        for (int what = 0; what < 3; what++) {
            Check.due("flushes " + what, due[what], x.flushes(what));
        }
        Check.due("still held", 2, x.told(8));
        Check.work(x, "flush;");
        Check.due("nothing", 0, x.flushes(2));
        Check.work(x, "write 0 1;");
        int[] over = {2, 4, 2};
        for (int what = 0; what < 3; what++) {
            Check.due("flushes over " + what, over[what], x.flushes(what));
        }
        Check.work(x, "bend 3 3 1;");
        Check.due("a node that it needs is bent", -1, x.flushes(0));
        Check.work(x, "loss;");
        Check.due("no power", -1, x.flushes(2));
        Check.thrown("3", Check.ILLEGAL, () -> x.flushes(3));
        Check.thrown("-1", Check.ILLEGAL, () -> x.flushes(-1));
    }

    static void promise31() {
        FreshLines x = Check.made("tree 2 1 1;minor 1;", "write 0 9;");
        long print = x.print();
        Check.due("done", 99, x.after(0, 99, 0));
        Check.due("one: done", 1, x.after(0, 1, 0));
        Check.due("tally", 4, x.after(0, 1, 1));
        Check.due("stored", 2, x.after(0, 1, 2));
        Check.due("two: stored", 3, x.after(0, 2, 2));
        Check.due("another: the dirty leaf is stored too", 2, x.after(2, 1, 2));
        Check.due("nothing stays changed", print, x.print());
        Check.due("word", 9, x.word(0));
        Check.work(x, "again 60[write 0 1;write 0 2;];again 4[write 0 1;];");
        Check.due("worn after two", 2, x.after(0, 5, 0));
        Check.due("tally of these alone", x.told(7) + 4, x.after(0, 5, 1));
        Check.due("stored by these alone", 3, x.after(0, 5, 2));
        Check.work(x, "loss;");
        Check.due("no power", 0, x.after(0, 3, 0));
        Check.due("no power: tally now", x.told(7), x.after(0, 3, 1));
        Check.due("no power: stored", 0, x.after(0, 3, 2));
        Check.thrown("line", Check.MISSING, () -> x.after(4, 0, 0));
        Check.thrown("0 times", Check.ILLEGAL, () -> x.after(0, 0, 0));
        Check.thrown("100 times", Check.ILLEGAL, () -> x.after(0, 100, 0));
        Check.thrown("what 3", Check.ILLEGAL, () -> x.after(0, 1, 3));
        Check.thrown("what -1", Check.ILLEGAL, () -> x.after(0, 1, -1));
    }

    static void promise32() {
        FreshLines x = Check.made("tree 2 2 2;minor 1;", "copy 0;write 0 1;");
        Check.due("could be done", 0, x.losses(0));
        Check.due("the leaf", 1, x.losses(1));
        Check.work(x, "flush;");
        Check.due("node 0, not the leaf", 1, x.losses(1));
        Check.work(x, "write 2 1;");
        Check.due("node 0 and another leaf", 2, x.losses(1));
        Check.due("power stays", 1, x.told(9));
        Check.work(x, "loss;");
        Check.due("without power too", 2, x.losses(1));
        Check.work(x, "lay 0 0;");
        Check.due("tally", 4, x.losses(0));
        Check.due("could not be done", 0, x.losses(1));
        Check.thrown("2", Check.ILLEGAL, () -> x.losses(2));
        Check.thrown("-1", Check.ILLEGAL, () -> x.losses(-1));
    }

    static void promise33() {
        FreshLines x = Check.made("tree 2 2 2;", "shoot;write 0 1;shoot;");
        Check.due("nothing was written out: only line 0 is old", 7, x.replayed(0, 0));
        Check.due("its tally", 4, x.replayed(0, 1));
        Check.due("the second is as now", 8, x.replayed(1, 0));
        Check.due("and could be mended", 0, x.replayed(1, 1));
        Check.work(x, "flush;");
        Check.due("half of all", 4, x.replayed(1, 0));
        long print = x.print();
        Check.due("still half", 4, x.replayed(0, 0));
        Check.due("nothing stays changed", print, x.print());
        Check.thrown("2", Check.MISSING, () -> x.replayed(2, 2));
        Check.thrown("-1", Check.MISSING, () -> x.replayed(-1, 0));
        Check.thrown("what 2", Check.ILLEGAL, () -> x.replayed(0, 2));
        Check.thrown("what -1", Check.ILLEGAL, () -> x.replayed(1, -1));
    }

    static void promise34() {
        FreshLines x = Check.made("key 31;", "flip 0 2 64;");
        Check.due("back again", 1, x.forgeries(0));
        Check.due("a right one has none", 0, x.forgeries(1));
        Check.work(x, "flip 0 1 64;");
        Check.due("two bytes", 0, x.forgeries(0));
        Check.thrown("16", Check.MISSING, () -> x.forgeries(16));
        Check.thrown("-1", Check.MISSING, () -> x.forgeries(-1));
    }

    static void promise35() {
        FreshLines x = Check.made("tree 2 1 1;");
        Check.due("none", 0, x.splices());
        Check.work(x, "copy 0;lay 0 1;");
        Check.due("what lies at 1 would be right on 0", 1, x.splices());
        Check.work(x, "lay 0 2;");
        Check.due("and what lies at 2", 2, x.splices());
        Check.work(x, "write 0 1;");
        Check.due("an old one is not", 0, x.splices());
    }

    static void promise36() {
        FreshLines x = Check.made("tree 2 2 2;", "read 0;");
        Check.due("none of them", 0, x.tour(0));
        Check.due("one that is near", 1, x.tour(2));
        Check.due("one that is far", 3, x.tour(128));
        Check.due("near first", 4, x.tour(129));
        Check.due("five", 5 + 2 + 1, x.tour(1 + 2 + 4 + 16 + 32));
        Check.due("nothing is fetched", 1, x.fetched(1));
        Check.thrown("six", Check.ILLEGAL, () -> x.tour(63));
        Check.thrown("no line", Check.ILLEGAL, () -> x.tour(256));
        Check.thrown("no line", Check.ILLEGAL, () -> x.tour(Long.MIN_VALUE));
        Check.work(x, "flip 7 0 1;");
        Check.due("no row", -1, x.tour(129));
        Check.work(x, "loss;");
        Check.due("no power", -1, x.tour(1));
        Check.due("none of them", 0, x.tour(0));
        Check.due("line 63", 3, Check.made("tree 4 2 2;").tour(Long.MIN_VALUE));
    }

    static void promise37() {
        FreshLines x = Check.made("tree 2 2 2;", "read 6;");
        int[] due = {6, 7, 0, 1, -1};
        for (int k = 0; k < due.length; k++) {
            Check.due("stop " + k, due[k], x.stop(1 + 2 + 64 + 128, k));
        }
        Check.due("alike: by line", 0, Check.made("tree 2 2 2;").stop(129, 0));
        Check.due("alike: the second", 7, Check.made("tree 2 2 2;").stop(129, 1));
        Check.due("no lines", -1, x.stop(0, 0));
        Check.due("far", -1, x.stop(1, Integer.MAX_VALUE));
        Check.thrown("k -1", Check.ILLEGAL, () -> x.stop(1, -1));
        Check.thrown("six", Check.ILLEGAL, () -> x.stop(63, 0));
        Check.thrown("no line", Check.ILLEGAL, () -> x.stop(256, 0));
        Check.work(x, "flip 0 0 1;");
        Check.due("no tour", -1, x.stop(1, 0));
    }

    static void promise38() {
        FreshLines x = Check.made("", "read 5;write 4 1;flip 3 0 1;read 3;flush;read 5;");
        int[] due = {5, 4, 5, -1};
        for (int k = 0; k < due.length; k++) {
            Check.due("reel " + k, due[k], x.reel(k));
        }
        Check.work(x, "again 10[read 1;read 2;];read 0;");
        Check.due("24 of them, the first", 5, x.reel(0));
        Check.due("the last", 0, x.reel(23));
        Check.work(x, "read 7;");
        Check.due("one went", 4, x.reel(0));
        Check.due("the new one", 7, x.reel(23));
        Check.due("no more", -1, x.reel(24));
        Check.thrown("-1", Check.ILLEGAL, () -> x.reel(-1));
    }

    static void promise39() {
        FreshLines x = Check.made("tree 2 2 4;minor 1;", "write 0 1;read 4;read 0;");
        int[][] due = {{6, 4}, {5, 2}, {4, 0}};
        for (int hold = 2; hold <= 4; hold++) {
            for (int what = 0; what < 2; what++) {
                Check.due("reelBy " + hold + ", " + what, due[hold - 2][what], x.reelBy(hold, what));
            }
        }
        Check.work(x, "flip 0 0 1;bend 0 3 1;loss;");
        Check.due("nothing not right", 6, x.reelBy(2, 0));
        Check.due("by 12", 4, x.reelBy(12, 0));
        Check.due("hold stays", 4, x.told(2));
        Check.thrown("hold 1", Check.ILLEGAL, () -> x.reelBy(1, 0));
        Check.thrown("hold 13", Check.ILLEGAL, () -> x.reelBy(13, 0));
        Check.thrown("what 2", Check.ILLEGAL, () -> x.reelBy(2, 2));
        Check.thrown("what -1", Check.ILLEGAL, () -> x.reelBy(2, -1));
    }

    static void promise40() {
        FreshLines x = Check.made("tree 2 2 4;", "read 0;read 4;read 0;");
        int[] due = {-1, -1, -1, -1, 4, 3, 2, 2};
        for (int n = 0; n < due.length; n++) {
            Check.due("least " + n, due[n], x.least(n));
        }
        Check.due("no reel", 3, new FreshLines().least(0));
        // Twelve nodes, twice in the same order: one less, and some are fetched again.
        FreshLines y = Check.made("", "again 2[read 0;read 2;read 4;read 6;read 8;read 12;];");
        Check.due("just 12", 12, y.least(12));
        Check.due("not 12", -1, y.least(11));
        Check.thrown("-1", Check.ILLEGAL, () -> x.least(-1));
    }

    static void promise41() {
        FreshLines x = Check.made("tree 4 2 2;key 67305985;");
        // The bytes of this key are 1, 2, 3, 4.
        for (int version : new int[] {0, 1, 255, 1023}) {
            int place = 1024 * 63 + version;
            long pad = 0;
            for (int i = 0; i < 4; i++) {
                int inner = x.box((place + i + 1) % 256);
                pad |= (long) x.box((inner + place / 256 + (i + 1) % 4 + 1) % 256) << 8 * i;
            }
            Check.due("pad by " + version, (int) pad, x.pad(63, version));
        }
        Check.thrown("version 1024", Check.ILLEGAL, () -> x.pad(0, 1024));
        Check.thrown("version -1", Check.ILLEGAL, () -> x.pad(0, -1));
        Check.thrown("line 64", Check.MISSING, () -> x.pad(64, 1024));
        Check.thrown("line -1", Check.MISSING, () -> x.pad(-1, 0));
    }

    static void promise42() {
        int[] due = {1, 644041, 299641, 663511, 104941};
        FreshLines x = new FreshLines();
        for (int k = 0; k < due.length; k++) {
            Check.due("weight " + k, due[k], x.weight(k));
        }
        Check.machine(x, "key 999999999;");
        int seed = 999999999;
        for (int k = 0; k <= 10; k++) {
            seed = seed * 1103515245 + 12345;
            Check.due("weight " + k, 1 + 30 * (seed >>> 16 & 32767), x.weight(k));
        }
        Check.thrown("11", Check.ILLEGAL, () -> x.weight(11));
        Check.thrown("-1", Check.ILLEGAL, () -> x.weight(-1));
    }

    static void promise43() {
        FreshLines x = new FreshLines();
        int[] due = {58, 207, 148, 198};
        boolean[] seen = new boolean[256];
        for (int place = 0; place < 256; place++) {
            seen[x.box(place)] = true;
            if (place >= 252) {
                Check.due("box " + place, due[place - 252], x.box(place));
            }
        }
        for (int number = 0; number < 256; number++) {
            Check.due("each once, " + number, true, seen[number]);
        }
        Check.thrown("256", Check.ILLEGAL, () -> x.box(256));
        Check.thrown("-1", Check.ILLEGAL, () -> x.box(-1));
    }

    static void promise44() {
        FreshLines x = Check.made("tree 3 2 2;key 5;", "write 3 4;flush;");
        long print = 0;
        for (int line = 0; line < 27; line++) {
            for (int what = 0; what < 5; what++) {
                print = 31 * print + x.line(line, what);
            }
        }
        for (int node = 0; node < 12; node++) {
            print = 31 * print + x.node(node, 0);
            for (int k = 0; k < 3; k++) {
                print = 31 * print + x.minor(node, k);
            }
            print = 31 * print + x.node(node, 1);
        }
        Check.due("print", print, x.print());
    }

    static void promise45() {
        FreshLines x = Check.made("", "pick 0;");
        for (int what = -2; what < 8; what++) {
            Check.due("at first " + what, what >= 0 && what <= 4 ? 0 : -1, x.status(what));
        }
        Check.thrown("1", Check.MISSING, () -> x.word(16));
        Check.thrown("2", Check.MISSING, () -> x.laid(0, 99) ? 1 : 0);
        Check.thrown("3", Check.ILLEGAL, () -> x.machine(1));
        Check.thrown("4", Check.NULL, () -> x.held(0, 0));
        Check.thrown("5", Check.BOUNDS, () -> x.minor(0, 2));
        Check.thrown("6", Check.KIND, () -> x.kept(0, 0));
        Check.machine(x, "");
        int[] due = {2, 1, 1, 1, 1, -1};
        for (int what = 0; what < due.length; what++) {
            Check.due("status " + what, due[what], x.status(what));
        }
    }

    static void promise46() {
        FreshLines x = new FreshLines();
        Check.due("none", 0, x.count());
        x.feed(1, 2, 3, 4, 5);
        x.feed(1, 2, 3, 4, 5);
        Check.due("forty", 40, x.count());
        Check.thrown("work 41", Check.ILLEGAL, () -> x.work(41));
        Check.due("stays", 40, x.count());
        x.work(40);
        Check.due("empty", 0, x.count());
    }
}
