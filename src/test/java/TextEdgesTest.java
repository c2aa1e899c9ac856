/** TAPE, the text of a MACHINE, the text of a WORK: each sentence that names a boundary, by itself. */
public final class TextEdgesTest {
    private static final String SIXTY = "key 5;".repeat(60);

    public static void main(String[] args) {
        feedUpTo600();
        feedInOrder();
        machineOfTheTape();
        machineTakesTheFirstBytes();
        machineOfFaultLeavesAll();
        machineBeginsAnew();
        workUpTo150();
        workOfFaultLeavesAll();
        faultOfTheLatest();
        countOfTheTape();
        clausesUpTo60();
        fans();
        depths();
        holds();
        treesWithoutAndLast();
        minors();
        keys();
        words();
        wordsBeyondTheLines();
        numbersInMachines();
        smallLetters();
        blanks();
        tooEarly();
        firstFromTheLeft();
        leastOfOnePlace();
        signsThatCannotStand();
        linesInWorks();
        nodesInWorks();
        othersInWorks();
        againsInTexts();
        sevenAgains();
        worksTooEarly();
        worksFirstFromTheLeft();
        Check.end("TextEdgesTest");
    }

    private static int feedBlanks(FreshLines x, int times) {
        int got = 0;
        for (int k = 0; k < times; k++) {
            got = x.feed(0x20202020, 0x20202020, 0x20202020, 0x20202020, 0x20202020);
        }
        return got;
    }

    static void feedUpTo600() {
        Check.about("2: NONE, doing nothing, if there would be more than 600");
        FreshLines x = new FreshLines();
        Check.due("feed 29", 580, feedBlanks(x, 29));
        Check.due("feed 30: not more than 600", 600, x.feed(0x20202020, 0x6B657920, 0x31323334, 0x35363738, 0x393B2020));
        Check.due("feed 31", -1, x.feed(0x78787878, 0, 0, 0, 0));
        Check.due("count", 600, x.count());
        Check.due("what was there stays", 16, x.machine(600));
        Check.due("the key that was fed by the 30th", Sums.weights(123456789)[0], x.weight(0));
        Check.due("on an empty tape again", 20, feedBlanks(x, 1));
        Check.due("a feed that does nothing is no refused call", 0, x.status(1));
    }

    static void feedInOrder() {
        Check.about("2: of each number the highest first");
        FreshLines x = new FreshLines();
        x.feed(0x776F7264, 0x20302031, 0x32333435, 0x3637383B, 0);
        x.machine(16);
        Check.due("word 0 12345678;", 12345678, x.word(0));
        x.feed(0x20000000, 0, 0, 0, 0xFF);
        Check.due("a 0 is no blank", -9, x.machine(2));
        Check.due("at", 1, x.fault());
        x.feed(0x20202020, 0x20202020, 0x20202020, 0x20202020, 0x202020FF);
        Check.due("255, the last of twenty", -9, x.machine(20));
        Check.due("at", 19, x.fault());
    }

    static void machineOfTheTape() {
        Check.about("3: IllegalArgumentException: n is not 0 to the TAPE's bytes (it stays)");
        FreshLines x = new FreshLines();
        Check.thrown("1 of 0", Check.ILLEGAL, () -> x.machine(1));
        Check.due("0 of 0", 16, x.machine(0));
        Check.feed(x, "tree 2 1 1;         ");
        Check.thrown("-1", Check.ILLEGAL, () -> x.machine(-1));
        Check.thrown("21 of 20", Check.ILLEGAL, () -> x.machine(21));
        Check.thrown("least", Check.ILLEGAL, () -> x.machine(Integer.MIN_VALUE));
        Check.thrown("most", Check.ILLEGAL, () -> x.machine(Integer.MAX_VALUE));
        Check.due("no machine was made", 16, x.told(4));
        Check.due("it stays", 20, x.count());
        Check.due("20 of 20, what was there", 4, x.machine(20));
        feedBlanks(x, 30);
        Check.thrown("601 of 600", Check.ILLEGAL, () -> x.machine(601));
        Check.due("600 of 600", 16, x.machine(600));
    }

    static void machineTakesTheFirstBytes() {
        Check.about("3: the first n bytes of the TAPE (empty then) are the MACHINE");
        FreshLines x = new FreshLines();
        Check.feed(x, "tree 2 1 1;tree 4 2 2;");
        Check.due("the first 11", 4, x.machine(11));
        Check.due("empty then", 0, x.count());
        Check.feed(x, "tree 2 1 1;");
        Check.due("no byte of it", 16, x.machine(0));
        Check.due("empty then too", 0, x.count());
        Check.feed(x, "tree 2 1 1;");
        Check.due("a part that has a fault", -9, x.machine(10));
        Check.due("empty behind a fault", 0, x.count());
    }

    static void machineOfFaultLeavesAll() {
        Check.about("3: the FAULT less 10 (all but the TAPE stays)");
        FreshLines x = Check.made("tree 3 1 2;minor 1;key 9;word 4 7;", "write 0 1;read 3;copy 0;shoot;lay 5 0;flip 8 0 1;read 8;");
        String state = Check.state(x);
        int weight = x.weight(3);
        String[] texts = {"tree 2 1 1;minor 2;key 4;word 4 1;x", "key 7;tree 2 1 1;minor 9;", "word 4 2;" + SIXTY};
        for (int kind = 1; kind <= 3; kind++) {
            Check.due("fault " + kind, kind - 10, Check.machine(x, texts[kind - 1]));
            Check.due("nothing else", state, Check.state(x));
        }
        Check.due("the key", weight, x.weight(3));
        Check.due("a word", 7, x.word(4));
        Check.due("a fault is no refused call", 0, x.status(1));
    }

    static void machineBeginsAnew() {
        Check.about("3: all begins anew (an empty ALBUM and REEL, no SNAPSHOTS, nothing was FETCHED, STORED)");
        FreshLines x = Check.made("tree 2 1 2;minor 1;key 9;word 1 7;", "write 0 1;write 0 2;flush;copy 0;pick 0;shoot;loss;mend;write 2 1;read 0;lay 5 0;read 3;bend 1 3 5;read 2;loss;");
        Check.due("refused", 1, x.told(10));
        Check.machine(x, "tree 2 1 2;minor 1;key 9;word 1 7;");
        Check.due("as new", Check.state(Check.made("tree 2 1 2;minor 1;key 9;word 1 7;")), Check.state(x));
        Check.work(x, "bend 0 0 1;read 0;");
        Check.due("refused as not fresh", 1, x.told(11));
        Check.machine(x, "");
        Check.due("of another form", Check.state(new FreshLines()), Check.state(x));
        Check.work(x, "write 0 1;");
        Check.machine(x, "");
        Check.due("while some are held, one of them dirty", Check.state(new FreshLines()), Check.state(x));
        FreshLines y = Check.made("tree 2 1 1;minor 1;", "write 2 5;write 2 6;flush;");
        Check.machine(y, "tree 2 1 1;minor 1;");
        Check.work(y, "write 0 1;flush;write 0 1;flush;");
        Check.due("node 1, not held of late, is stored as it is now", "0 0 0 1", y.node(1, 0) + " " + y.minor(1, 0) + " " + y.minor(1, 1) + " " + y.node(1, 7));
    }

    static void workUpTo150() {
        Check.about("4: WORK (n to 150)");
        FreshLines x = new FreshLines();
        Check.thrown("1 of 0", Check.ILLEGAL, () -> x.work(1));
        Check.due("0 of 0", 0, x.work(0));
        Check.feed(x, "write 0 1;" + " ".repeat(150));
        Check.due("160", 160, x.count());
        Check.thrown("151 of 160", Check.ILLEGAL, () -> x.work(151));
        Check.thrown("160 of 160", Check.ILLEGAL, () -> x.work(160));
        Check.thrown("-1", Check.ILLEGAL, () -> x.work(-1));
        Check.thrown("least", Check.ILLEGAL, () -> x.work(Integer.MIN_VALUE));
        Check.due("it stays", 160, x.count());
        Check.due("none was done", 0, x.told(7));
        Check.due("150 of 160", 1, x.work(150));
        Check.due("empty then", 0, x.count());
        Check.feed(x, " ".repeat(20));
        Check.thrown("21 of 20", Check.ILLEGAL, () -> x.work(21));
        Check.due("20 of 20", 0, x.work(20));
        // 37 steps of four bytes at most: none is too many for a text of 150 bytes.
        Check.due("as many steps as stand there", 1, Check.work(x, "again 1[" + "again 0[];".repeat(13) + "flush;];" + "  "));
    }

    static void workOfFaultLeavesAll() {
        Check.about("4: or the FAULT less 10 (none is)");
        FreshLines x = Check.made("tree 2 1 1;", "mend;read 0;bend 1 0 1;read 2;");
        String state = Check.state(x);
        Check.due("refused ahead", 2, x.told(10));
        String[] texts = {"write 0 1;flush;loss;x", "write 0 1;shoot;copy 0;flip 0 0 256;", "write 0 1;" + "again 1[".repeat(7)};
        for (int kind = 1; kind <= 3; kind++) {
            Check.due("fault " + kind, kind - 10, Check.work(x, texts[kind - 1]));
            Check.due("empty then", 0, x.count());
            Check.due("none is done", state, Check.state(x));
        }
    }

    static void faultOfTheLatest() {
        Check.about("5: the place of the FAULT of the latest text; NONE without");
        FreshLines x = new FreshLines();
        Check.due("no text", -1, x.fault());
        Check.machine(x, "x");
        Check.due("at the first byte", 0, x.fault());
        Check.thrown("n", Check.ILLEGAL, () -> x.work(1));
        Check.due("a refused call has no text", 0, x.fault());
        x.work(0);
        Check.due("an empty work is a text", -1, x.fault());
        Check.work(x, "read 16;");
        Check.due("of a work", 5, x.fault());
        Check.machine(x, "key 1;");
        Check.due("a machine behind it", -1, x.fault());
        Check.machine(x, "key 1");
        Check.due("at the length", 5, x.fault());
        Check.work(x, "read 0;");
        Check.due("a work behind it", -1, x.fault());
    }

    static void countOfTheTape() {
        Check.about("46: bytes of the TAPE");
        FreshLines x = new FreshLines();
        Check.due("at first", 0, x.count());
        x.feed(0, 0, 0, 0, 0);
        Check.due("zeros are bytes", 20, x.count());
        feedBlanks(x, 29);
        Check.due("full", 600, x.count());
        x.machine(1);
        Check.due("behind a fault", 0, x.count());
    }

    static void clausesUpTo60() {
        Check.about("Terms: { CLAUSE \";\" }, at most 60; 3 a 61st CLAUSE (at its word)");
        Check.machineOf(SIXTY, 0, -1);
        Check.machineOf(SIXTY + "   ", 0, -1);
        Check.machineOf(SIXTY + "key 6;", 3, 360);
        Check.machineOf(SIXTY + "   key 6;", 3, 363);
        Check.machineOf(SIXTY + "tree 9 9 9;", 3, 360);
        Check.machineOf(SIXTY + "minor;", 3, 360);
        Check.machineOf(SIXTY + "word", 3, 360);
        Check.machineOf(" ".repeat(240) + SIXTY, 0, -1);
        Check.machineOf("", 0, -1);
        // A WORK may have more STEPS than that.
        Check.due("70 steps of a work", 70, Check.work(new FreshLines(), "again 35[flush;flush;];"));
    }

    static void fans() {
        Check.about("Terms: FAN F 2 to 4");
        Check.machineOf("tree 0 1 1;", 2, 5);
        Check.machineOf("tree 1 1 1;", 2, 5);
        Check.machineOf("tree 5 1 1;", 2, 5);
        for (int fan = 2; fan <= 4; fan++) {
            FreshLines x = Check.made("tree " + fan + " 1 1;");
            Check.due("fan", fan, x.told(0));
            Check.due("lines", fan * fan, x.told(4));
        }
    }

    static void depths() {
        Check.about("Terms: DEPTH D 1 to 5, F to the power of D and 1 is 64 at most; D by F: at D");
        int[] most = {0, 0, 5, 2, 2};
        for (int fan = 2; fan <= 4; fan++) {
            int lines = fan;
            for (int depth = 0; depth <= 6; depth++) {
                String text = "tree " + fan + " " + depth + " 12;";
                if (depth >= 1 && depth <= most[fan]) {
                    lines *= fan;
                    FreshLines x = new FreshLines();
                    Check.due(text, lines, Check.machine(x, text));
                    Check.due("depth", depth, x.told(1));
                } else {
                    Check.machineOf(text, 2, 7);
                }
            }
        }
    }

    static void holds() {
        Check.about("Terms: HOLD C, D to 12; C by D: at C");
        for (int depth = 1; depth <= 5; depth++) {
            Check.machineOf("tree 2 " + depth + " " + (depth - 1) + ";", 2, 9);
            Check.machineOf("tree 2 " + depth + " 13;", 2, 9);
            Check.due("the least", depth, Check.made("tree 2 " + depth + " " + depth + ";").told(2));
            Check.due("the most", 12, Check.made("tree 2 " + depth + " 12;").told(2));
        }
    }

    static void treesWithoutAndLast() {
        Check.about("Terms: 2 3 4 without; the last counts, all three");
        FreshLines x = Check.made("key 1;");
        Check.due("F D C", "2 3 4", x.told(0) + " " + x.told(1) + " " + x.told(2));
        FreshLines y = Check.made("tree 4 2 9;tree 3 1 2;");
        Check.due("the last", "3 1 2", y.told(0) + " " + y.told(1) + " " + y.told(2));
        Check.machine(y, "minor 1;");
        Check.due("not that of an earlier machine", "2 3 4", y.told(0) + " " + y.told(1) + " " + y.told(2));
        Check.machineOf("tree 2 6 6;tree 2 1 1;", 2, 7);
        // D and C of each clause go by its own F and D.
        Check.machineOf("tree 2 5 5;tree 3 1 1;", 0, -1);
        Check.machineOf("tree 2 5 5;tree 3 3 5;", 2, 18);
    }

    static void minors() {
        Check.about("Terms: \"minor\" B (1 to 4; 2 without; likewise)");
        Check.machineOf("minor 0;", 2, 6);
        Check.machineOf("minor 5;", 2, 6);
        for (int bits = 1; bits <= 4; bits++) {
            Check.due("minor", bits, Check.made("minor " + bits + ";").told(3));
        }
        Check.due("without", 2, Check.made("tree 2 1 1;").told(3));
        Check.due("the last", 3, Check.made("minor 4;minor 1;minor 3;").told(3));
    }

    static void keys() {
        Check.about("Terms: \"key\" V (0 to 999,999,999; 0 without; likewise)");
        int[] keys = {0, 1, 999_999_999};
        for (int key : keys) {
            FreshLines x = Check.made("key " + key + ";");
            Check.due("weight 10 of key " + key, Sums.weights(key)[10], x.weight(10));
            Check.due("pad of key " + key, Sums.pad(key, 3, 5), x.pad(3, 5));
        }
        Check.machineOf("key 1000000000;", 2, 4);
        Check.machineOf("key 4294967296;", 2, 4);
        Check.machineOf("key 18446744073709551617;", 2, 4);
        Check.due("without", Sums.weights(0)[1], Check.made("tree 2 1 1;").weight(1));
        Check.due("the last", Sums.weights(3)[1], Check.made("key 5;key 3;").weight(1));
        FreshLines x = Check.made("key 5;");
        Check.machine(x, "");
        Check.due("not that of an earlier machine", Sums.weights(0)[1], x.weight(1));
    }

    static void words() {
        Check.about("Terms: \"word\" L V (L 0 to 63, V 0 to 99,999,999; 0 without; of each L the last counts)");
        FreshLines x = Check.made("tree 4 2 2;word 0 99999999;word 63 1;word 62 0;word 5 8;word 6 9;word 5 7;");
        Check.due("0", 99_999_999, x.word(0));
        Check.due("63", 1, x.word(63));
        Check.due("62", 0, x.word(62));
        Check.due("the last of 5", 7, x.word(5));
        Check.due("6 has its own", 9, x.word(6));
        Check.due("without", 0, x.word(7));
        Check.machineOf("word 64 0;", 2, 5);
        Check.machineOf("word 0 100000000;", 2, 7);
        Check.machineOf("word 64 100000000;", 2, 5);
    }

    static void wordsBeyondTheLines() {
        Check.about("Terms: beyond the LINES, as told at the end, left out");
        Check.machineOf("tree 2 1 1;word 4 5;", 0, -1);
        FreshLines x = Check.made("word 63 5;word 3 6;tree 2 5 5;");
        Check.due("a line as told at the end", 5, x.word(63));
        Check.machine(x, "tree 2 5 5;word 63 5;word 15 8;word 16 9;tree 2 3 3;");
        Check.due("16 lines at the end", 16, x.told(4));
        Check.due("the last of these", 8, x.word(15));
        Check.due("the same as without", Check.made("word 15 8;").print(), x.print());
        Check.machine(x, "tree 2 5 5;");
        Check.due("left out, not kept for later", 0, x.word(63));
        Check.about("Terms: \"word\": 0 without, whatever an earlier MACHINE told");
        Check.machine(x, "tree 2 5 5;word 0 5;word 31 6;word 63 7;");
        Check.due("told", "5 6 7", x.word(0) + " " + x.word(31) + " " + x.word(63));
        Check.machine(x, "tree 2 5 5;");
        Check.due("without", "0 0 0", x.word(0) + " " + x.word(31) + " " + x.word(63));
    }

    static void numbersInMachines() {
        Check.about("Terms: Numbers: digits, as many as stand there");
        Check.due("zeros ahead", Sums.weights(70)[0], Check.made("key " + "0".repeat(400) + "70;").weight(0));
        Check.due("all zeros", Sums.weights(0)[0], Check.made("key 000;").weight(0));
        Check.machineOf("tree 211;", 2, 5);
        Check.machineOf("tree 2 11;", 2, 7);
        Check.machineOf("minor 01;", 0, -1);
        Check.machineOf("minor 10;", 2, 6);
        Check.machineOf("key " + "9".repeat(500) + ";", 2, 4);
        Check.machineOf("key -1;", 1, 4);
        Check.machineOf("key +1;", 1, 4);
        Check.machineOf("key 1.0;", 1, 5);
        Check.machineOf("key /;", 1, 4);
        Check.machineOf("key :;", 1, 4);
    }

    static void smallLetters() {
        Check.about("Terms: WORDS: small letters, as many as stand there");
        String[] bad = {"keys 1;", "ke 1;", "keykey 1;", "Key 1;", "treeminor 2;", "trees 2 1 1;", "m 1;", "minors 1;", "words 0 1;", "wor 0 1;", "z 1;", "`ey 1;", "{ey 1;", "a;"};
        for (String text : bad) {
            Check.machineOf(text, 1, 0);
            Check.machineOf("  " + text, 1, 2);
        }
        Check.machineOf("keY 1;", 1, 0);
        Check.machineOf("keyz 1;", 1, 0);
        Check.machineOf("keya 1;", 1, 0);
        Check.workOf(new FreshLines(), "flushz;", 1, 0);
        Check.workOf(new FreshLines(), "flusha;", 1, 0);
        Check.machineOf("word5 5;", 0, -1);
        Check.machineOf("key5;minor3;tree2 1 1;", 0, -1);
        Check.machineOf("tree 2a1 1;", 1, 6);
    }

    static void blanks() {
        Check.about("Terms: blanks (32) may stand ahead of all these, and at the end");
        Check.machineOf("   tree   2   1   1   ;   word   0   5   ;   ", 0, -1);
        Check.due("they count for nothing", Check.made("tree 2 1 1;word 0 5;").print(), Check.made("  tree  2  1  1;  word  0  5;  ").print());
        Check.machineOf(" ", 0, -1);
        char[] others = {'\t', '\n', '\r', 0, 11, 31, 33, 160, 255};
        for (char sign : others) {
            Check.machineOf(sign + "key 1;", 1, 0);
            Check.machineOf("key" + sign + "1;", 1, 3);
            Check.machineOf("key 1" + sign + ";", 1, 5);
            Check.machineOf("key 1;" + sign, 1, 6);
        }
        Check.machineOf("key 1 2;", 1, 6);
        Check.machineOf("k ey 1;", 1, 0);
    }

    /** Each part of a text that is cut off: at the length, but a piece of a WORD is one that can't stand there. */
    static void tooEarly() {
        Check.about("Terms: 1 what can't stand there (at the length, if the text ends too early)");
        String text = "tree 2 1 1;minor 2;key 1;word 0 1;";
        int begun = 0;
        for (int length = 0; length < text.length(); length++) {
            char last = length == 0 ? ';' : text.charAt(length - 1);
            if (last == ';') {
                begun = length;
                Check.machineOf(text.substring(0, length), 0, -1);
            } else {
                String piece = text.substring(begun, length);
                boolean whole = piece.matches("(tree|minor|key|word)[0-9 ]*");
                Check.machineOf(text.substring(0, length), 1, whole ? length : begun);
                Check.machineOf(text.substring(0, length) + "  ", 1, whole ? length + 2 : begun);
                FreshLines x = new FreshLines();
                Check.feed(x, text);
                Check.due("the first " + length + " of " + text, -9, x.machine(length));
                Check.due("what lies on the tape behind them counts for nothing", whole ? length : begun, x.fault());
            }
        }
        Check.machineOf(" ".repeat(595) + "key 1", 1, 600);
        Check.machineOf(" ".repeat(597) + "key", 1, 600);
        Check.machineOf(" ".repeat(598) + "ke", 1, 598);
        Check.machineOf(" ".repeat(594) + "key 1;", 0, -1);
    }

    static void firstFromTheLeft() {
        Check.about("Terms: FAULTS, the first from the left, at its first byte");
        Check.machineOf("minor 77;keys 1;", 2, 6);
        Check.machineOf("keys 1;minor 77;", 1, 0);
        Check.machineOf("tree 9 9 99;", 2, 5);
        Check.machineOf("tree 2 9 99;", 2, 7);
        Check.machineOf("tree 2 2 99", 2, 9);
        Check.machineOf("minor 5", 2, 6);
        Check.machineOf("minor 4", 1, 7);
        Check.machineOf("minor   55x", 2, 8);
        Check.machineOf("word 64", 2, 5);
        Check.machineOf("key 1x;minor 9;", 1, 5);
    }

    static void leastOfOnePlace() {
        Check.about("Terms: of one the least");
        Check.machineOf(SIXTY + "keys 5;", 1, 360);
        Check.machineOf(SIXTY + "  x", 1, 362);
        Check.machineOf(SIXTY + ";", 1, 360);
        Check.machineOf(SIXTY + "5", 1, 360);
        Check.machineOf("key 5;".repeat(59) + "key 5", 1, 359);
        Check.workOf(new FreshLines(), "again 1[".repeat(6) + "agains 1[", 1, 48);
    }

    static void signsThatCannotStand() {
        Check.about("Terms: CLAUSE: \"tree\" F D C, \"minor\" B, \"key\" V, \"word\" L V, each with \";\"");
        String[] texts = {";", "key 1;;", "tree;", "tree 2;", "tree 2 1;", "tree 2 1 1 1;", "minor;", "minor 1 1;", "key;", "key 1 1;", "word;", "word 1;", "word 1 1 1;",
            "key 1 key 2;", "key 1,key 2;", "3;", "read 0;", "flush;", "again 1[key 1;];", "]", "[", "key key 1;"};
        int[] at = {0, 6, 4, 6, 8, 11, 5, 8, 3, 6, 4, 6, 9, 6, 5, 0, 0, 0, 0, 0, 0, 4};
        for (int i = 0; i < texts.length; i++) {
            Check.machineOf(texts[i], 1, at[i]);
        }
    }

    static void linesInWorks() {
        Check.about("Terms: L below LINES");
        String[] machines = {"tree 2 1 2;", "tree 2 3 4;", "tree 3 2 2;", "tree 4 2 2;"};
        int[] lines = {4, 16, 27, 64};
        for (int i = 0; i < machines.length; i++) {
            FreshLines x = Check.made(machines[i]);
            int most = lines[i] - 1;
            String[] ahead = {"write ", "read ", "flip ", "copy ", "lay 0 "};
            String[] behind = {" 5;", ";", " 0 1;", ";", ";"};
            for (int k = 0; k < ahead.length; k++) {
                Check.workOf(x, ahead[k] + lines[i] + behind[k], 2, ahead[k].length());
                Check.workOf(x, ahead[k] + most + behind[k], 0, -1);
                Check.workOf(x, ahead[k] + 0 + behind[k], 0, -1);
            }
        }
        FreshLines x = Check.made("tree 2 1 2;");
        Check.machine(x, "tree 4 2 2;x");
        Check.workOf(x, "read 4;", 2, 5);
        Check.about("Terms: \"write\" L V (V 0 to 99,999,999)");
        Check.workOf(x, "write 0 100000000;", 2, 8);
        Check.workOf(x, "write 0 0;", 0, -1);
        Check.workOf(x, "write 0 99999999;", 0, -1);
        Check.due("the word", 99_999_999, x.word(0));
    }

    static void nodesInWorks() {
        Check.about("Terms: N below NODES");
        String[] machines = {"tree 2 1 2;", "tree 2 5 5;", "tree 3 2 2;", "tree 4 2 2;"};
        int[] nodes = {2, 62, 12, 20};
        for (int i = 0; i < machines.length; i++) {
            FreshLines x = Check.made(machines[i]);
            String[] ahead = {"bend ", "pick ", "graft 0 "};
            String[] behind = {" 0 1;", ";", ";"};
            for (int k = 0; k < ahead.length; k++) {
                Check.workOf(x, ahead[k] + nodes[i] + behind[k], 2, ahead[k].length());
                Check.workOf(x, ahead[k] + (nodes[i] - 1) + behind[k], 0, -1);
                Check.workOf(x, ahead[k] + 0 + behind[k], 0, -1);
            }
        }
        Check.about("Terms: \"bend\" N J X (J 0 to F and 1)");
        for (int fan = 2; fan <= 4; fan++) {
            FreshLines x = Check.made("tree " + fan + " 1 1;");
            Check.workOf(x, "bend 0 0 1;", 0, -1);
            Check.workOf(x, "bend 0 " + (fan + 1) + " 1;", 0, -1);
            Check.workOf(x, "bend 0 " + (fan + 2) + " 1;", 2, 7);
        }
    }

    static void othersInWorks() {
        FreshLines x = new FreshLines();
        Check.about("Terms: \"flip\" L Y X (Y 0 to 3, X 1 to 255)");
        Check.workOf(x, "flip 0 4 1;", 2, 7);
        Check.workOf(x, "flip 0 0 0;", 2, 9);
        Check.workOf(x, "flip 0 3 256;", 2, 9);
        Check.workOf(x, "flip 0 0 1;", 0, -1);
        Check.workOf(x, "flip 0 3 255;", 0, -1);
        Check.about("Terms: \"bend\" N J X (X 1 to 999)");
        Check.workOf(x, "bend 0 0 0;", 2, 9);
        Check.workOf(x, "bend 0 0 1000;", 2, 9);
        Check.workOf(x, "bend 0 3 999;", 0, -1);
        Check.workOf(x, "bend 0 1 1;", 0, -1);
        Check.about("Terms: A 0 to 7");
        Check.workOf(x, "lay 8 0;", 2, 4);
        Check.workOf(x, "graft 8 0;", 2, 6);
        Check.workOf(x, "lay 7 0;", 0, -1);
        Check.workOf(x, "graft 7 0;", 0, -1);
        Check.workOf(x, "lay 0 0;", 0, -1);
        Check.workOf(x, "graft 0 0;", 0, -1);
        Check.about("Terms: \"replay\" Z (0 to 2)");
        Check.workOf(x, "replay 3;", 2, 7);
        Check.workOf(x, "replay 2;", 0, -1);
        Check.workOf(x, "replay 0;", 0, -1);
        Check.about("Terms: \"again\" V (V 0 to 60)");
        Check.workOf(x, "again 61[];", 2, 6);
        Check.workOf(x, "again 60[];", 0, -1);
        Check.workOf(x, "again 0[];", 0, -1);
        Check.about("Terms: STEP: so many numbers, and \";\"");
        String[] texts = {"write;", "write 0;", "write 0 1 1;", "read;", "read 0 0;", "flush 0;", "loss 0;", "mend 0;", "flip 0 0;", "flip 0 0 1 1;", "bend 0 0;",
            "bend 0 0 1 1;", "copy;", "copy 0 0;", "pick;", "pick 0 0;", "lay 0;", "lay 0 0 0;", "graft 0;", "graft 0 0 0;", "shoot 0;", "replay;", "replay 0 0;",
            "flush", "flush;;", "tree 2 3 4;", "reads 0;", "rea 0;", "Read 0;", "x", "5;", ";", "flush flush;", "\tflush;", "flush\t;"};
        int[] at = {5, 7, 10, 4, 7, 6, 5, 5, 8, 11, 8, 11, 4, 7, 4, 7, 5, 8, 7, 10, 6, 6, 9, 5, 6, 0, 0, 0, 0, 0, 0, 0, 6, 0, 5};
        for (int i = 0; i < texts.length; i++) {
            Check.workOf(new FreshLines(), texts[i], 1, at[i]);
        }
    }

    static void againsInTexts() {
        Check.about("Terms: \"again\" V \"[\" { STEP \";\" } \"]\"");
        String[] texts = {"again 1;", "again [];", "again 1 flush;", "again 1[]", "again 1[];;", "again 1[;];", "again 1[flush];", "again 1[flush;]flush;", "]", "];", "[];", "flush;];",
            "again 1[]];", "again 1[[];];", "again 1(flush;);", "again 1[flush;];]"};
        int[] at = {7, 6, 8, 9, 10, 8, 13, 15, 0, 0, 0, 6, 9, 8, 7, 16};
        for (int i = 0; i < texts.length; i++) {
            Check.workOf(new FreshLines(), texts[i], 1, at[i]);
        }
        Check.due("blanks ahead of each", 2, Check.work(new FreshLines(), "  again  2  [  flush  ;  ]  ;  "));
        Check.due("without blanks", 2, Check.work(new FreshLines(), "again2[flush;];"));
        Check.due("an empty one", 0, Check.work(new FreshLines(), "again 2[];"));
    }

    static void sevenAgains() {
        Check.about("Terms: 3 a 7th again that is open at one time (at its word)");
        String six = "again 1[".repeat(6);
        String shut = "];".repeat(6);
        Check.due("six", 1, Check.work(new FreshLines(), six + "flush;" + shut));
        Check.workOf(new FreshLines(), six + "again 1[];" + shut, 3, 48);
        Check.workOf(new FreshLines(), six + "   again 99;", 3, 51);
        Check.workOf(new FreshLines(), six + "again", 3, 48);
        Check.due("the sixth was shut", 2, Check.work(new FreshLines(), six + "flush;];again 1[flush;" + shut));
        Check.workOf(new FreshLines(), six + "];again 1[again 1[", 3, 58);
        Check.due("seven, one behind the other", 7, Check.work(new FreshLines(), "again 1[flush;];".repeat(7)));
    }

    static void worksTooEarly() {
        Check.about("Terms: (at the length, if the text ends too early), of a WORK");
        String text = "write 0 1;again 2[flip 0 0 1;];flush;";
        int begun = 0;
        for (int length = 0; length < text.length(); length++) {
            String cut = text.substring(0, length);
            char last = length == 0 ? ';' : text.charAt(length - 1);
            boolean open = cut.contains("[") && !cut.contains("];");
            if (last == ';' || last == '[' || last == ']') {
                begun = length;
            }
            String piece = cut.substring(begun);
            boolean whole = piece.isEmpty() || piece.matches("(write|again|flip|flush)[0-9 ]*");
            if (piece.isEmpty() && !open && last != ']') {
                Check.workOf(new FreshLines(), cut, 0, -1);
            } else {
                Check.workOf(new FreshLines(), cut, 1, whole ? length : begun);
                Check.workOf(new FreshLines(), cut + " ", 1, whole ? length + 1 : begun);
            }
        }
    }

    static void worksFirstFromTheLeft() {
        Check.about("Terms: FAULTS, the first from the left, of a WORK");
        Check.workOf(new FreshLines(), "read 16;reads 0;", 2, 5);
        Check.workOf(new FreshLines(), "reads 0;read 16;", 1, 0);
        Check.workOf(new FreshLines(), "bend 14 9 0;", 2, 5);
        Check.workOf(new FreshLines(), "bend 13 9 0;", 2, 8);
        Check.workOf(new FreshLines(), "bend 13 3 0", 2, 10);
        Check.workOf(new FreshLines(), "again 61 flush;", 2, 6);
        Check.workOf(new FreshLines(), "again 61[".repeat(7), 2, 6);
        Check.workOf(new FreshLines(), "again 1[".repeat(6) + "read 16;again 1[", 2, 53);
        Check.workOf(new FreshLines(), "read   0016x;", 2, 7);
    }
}
