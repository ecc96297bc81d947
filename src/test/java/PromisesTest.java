/** For each promise: ordinary inputs, the edges that the document names, and wrong inputs. */
public final class PromisesTest {
    private static final int BAD = AnsTables.BAD;
    private static final int NONE = AnsTables.NONE;
    private static final int FULL = AnsTables.FULL;
    private static final long B23 = 1L << 23;
    private static final long B31 = 1L << 31;
    /** LOG 5, one LANE, no sign, all of the SHARES at sign 0, and the first state. */
    private static final int[] EMPTY = {0, 5, 0, 0, 128, 0, 128, 0, 0};

    private static int checks = 0;
    private static int wrong = 0;
    private static int promise = 0;

    private PromisesTest() {
    }

    public static void main(String[] args) {
        newObject();
        add();
        clear();
        count();
        counts();
        normal();
        share();
        loss();
        lg();
        form();
        lanes();
        writeHead();
        writeTable();
        writeForms();
        writeLanes();
        writePutsOut();
        writeNone();
        read();
        readKeepsWhatWasRead();
        readGoesByOut();
        ruleOne();
        ruleTwo();
        ruleThree();
        ruleFour();
        ruleFive();
        ruleSix();
        sign();
        spread();
        state();
        stateOfBrokenRead();
        out();
        spoil();
        cut();
        octet();
        agree();
        told();
        System.out.println(checks + " checks of the promises, " + wrong + " are not as due");
        if (wrong != 0) {
            System.exit(1);
        }
    }

    private static void due(String what, long got, long want) {
        checks++;
        if (got != want) {
            wrong++;
            System.out.println("promise " + promise + ": " + what + " answered " + got + ", due is " + want);
        }
    }

    /** Signs 0 and 1 with half of 32 each, and this row. */
    private static AnsTables halves(int form, int lanes, int... row) {
        AnsTables x = new AnsTables(5);
        x.count(0, 1);
        x.count(1, 1);
        x.normal();
        x.form(form);
        x.lanes(lanes);
        for (int sign : row) {
            x.add(sign);
        }
        return x;
    }

    private static AnsTables withOut(int... bytes) {
        AnsTables x = new AnsTables(5);
        for (int b : bytes) {
            x.octet(b);
        }
        return x;
    }

    private static AnsTables changed(int[] bytes, int at, int value) {
        int[] all = bytes.clone();
        all[at] = value;
        return withOut(all);
    }

    private static void outIs(String what, AnsTables x, int... bytes) {
        due(what + ": bytes", x.told(2), bytes.length);
        for (int i = 0; i < bytes.length; i++) {
            due(what + ": out(" + i + ")", x.out(i), bytes[i]);
        }
    }

    private static void reads(String what, AnsTables x, int answer, int rule) {
        due(what + ": read()", x.read(), answer);
        due(what + ": rule()", x.rule(), rule);
    }

    private static void newObject() {
        promise = 1;
        int[][] logs = {{5, 5}, {6, 6}, {12, 12}, {4, 5}, {0, 5}, {-1, 5}, {13, 12}, {99, 12},
            {Integer.MIN_VALUE, 5}, {Integer.MAX_VALUE, 12}};
        for (int[] log : logs) {
            AnsTables x = new AnsTables(log[0]);
            due("LOG of " + log[0], x.told(0), log[1]);
            due("lg(SIZE)", x.lg(1 << log[1]), (long) log[1] << 30);
            due("lg(SIZE + 1)", x.lg((1 << log[1]) + 1), BAD);
        }
        AnsTables x = new AnsTables(7);
        for (int what = 1; what <= 6; what++) {
            due("told(" + what + ") at first", x.told(what), what == 5 ? 1 : 0);
        }
        for (int sign = 0; sign < 32; sign++) {
            due("count at first", x.count(sign, 0), 0);
        }
    }

    private static void add() {
        promise = 2;
        AnsTables x = new AnsTables(5);
        due("add(0)", x.add(0), 1);
        due("add(31)", x.add(31), 2);
        due("add(32)", x.add(32), BAD);
        due("add(-1)", x.add(-1), BAD);
        due("add(MIN)", x.add(Integer.MIN_VALUE), BAD);
        due("add(MAX)", x.add(Integer.MAX_VALUE), BAD);
        due("add(7)", x.add(7), 3);
        for (int n = 4; n <= 1000; n++) {
            due("add", x.add(n % 32), n);
        }
        due("add to 1,000", x.add(3), FULL);
        due("no sign to 1,000", x.add(32), BAD);
        due("row of 1,000", x.told(1), 1000);
        x.counts();
        x.normal();
        due("1,000 signs agree", x.agree(), 1);
        due("999", x.sign(999), 1000 % 32);
    }

    private static void clear() {
        promise = 3;
        AnsTables x = halves(0, 1, 0, 1, 1);
        x.write();
        due("clear()", x.clear(), 3);
        due("clear() again", x.clear(), 0);
        due("told(1)", x.told(1), 0);
        due("SHARES stay", x.told(6), 1);
        due("OUT stays", x.told(2), 10);
        due("add(5)", x.add(5), 1);
    }

    private static void count() {
        promise = 4;
        AnsTables x = new AnsTables(5);
        due("count(0, 5)", x.count(0, 5), 0);
        due("count(0, 1000000)", x.count(0, 1000000), 5);
        due("count(0, 1000001)", x.count(0, 1000001), BAD);
        due("count(0, -1)", x.count(0, -1), BAD);
        due("count(32, 1)", x.count(32, 1), BAD);
        due("count(-1, 1)", x.count(-1, 1), BAD);
        due("count(31, 2)", x.count(31, 2), 0);
        due("count(0, 0)", x.count(0, 0), 1000000);
        due("normal()", x.normal(), 1);
        due("a wrong count", x.count(0, -1), BAD);
        due("SHARES stay", x.told(6), 1);
        due("the same count", x.count(31, 2), 2);
        due("SHARES are none", x.told(6), 0);
        due("share(31)", x.share(31), 0);
    }

    private static void counts() {
        promise = 5;
        AnsTables x = new AnsTables(5);
        x.count(9, 4);
        due("counts() of an empty row", x.counts(), 0);
        due("count(9, 4)", x.count(9, 4), 0);
        x.normal();
        x.add(0);
        x.add(31);
        x.add(0);
        due("counts()", x.counts(), 2);
        due("SHARES are none", x.told(6), 0);
        due("COUNT of 9", x.count(9, 0), 0);
        due("COUNT of 31", x.count(31, 1), 1);
        due("COUNT of 0", x.count(0, 2), 2);
    }

    private static void sharesAre(AnsTables x, int... signsAndShares) {
        int[] all = new int[32];
        for (int i = 0; i < signsAndShares.length; i += 2) {
            all[signsAndShares[i]] = signsAndShares[i + 1];
        }
        for (int sign = 0; sign < 32; sign++) {
            due("share(" + sign + ")", x.share(sign), all[sign]);
        }
    }

    private static AnsTables counted(int log, int... signsAndCounts) {
        AnsTables x = new AnsTables(log);
        for (int i = 0; i < signsAndCounts.length; i += 2) {
            x.count(signsAndCounts[i], signsAndCounts[i + 1]);
        }
        return x;
    }

    private static void normal() {
        promise = 6;
        AnsTables x = new AnsTables(5);
        due("normal() without COUNTS", x.normal(), NONE);
        due("no SHARES", x.told(6), 0);
        x = counted(5, 0, 1, 1, 1, 2, 1);
        due("normal() of three", x.normal(), 3);
        sharesAre(x, 0, 11, 1, 11, 2, 10);
        due("normal() again", x.normal(), 3);
        sharesAre(x, 0, 11, 1, 11, 2, 10);
        x = counted(5, 3, 1000000, 9, 1);
        due("normal() of unlike ones", x.normal(), 2);
        sharesAre(x, 3, 31, 9, 1);
        x = counted(12, 0, 5, 1, 5, 31, 5);
        due("normal() at LOG 12", x.normal(), 3);
        sharesAre(x, 0, 1366, 1, 1365, 31, 1365);
        x = new AnsTables(5);
        for (int sign = 0; sign < 32; sign++) {
            x.count(sign, sign * sign + 1);
        }
        due("normal() of all", x.normal(), 32);
        for (int sign = 0; sign < 32; sign++) {
            due("one each", x.share(sign), 1);
        }
        for (int sign = 0; sign < 32; sign++) {
            x.count(sign, 0);
        }
        due("normal() when no COUNT is left", x.normal(), NONE);
        due("SHARES are none", x.told(6), 0);
    }

    private static void share() {
        promise = 7;
        AnsTables x = counted(6, 4, 3);
        due("share(4) before", x.share(4), 0);
        x.normal();
        due("share(4)", x.share(4), 64);
        due("share(5)", x.share(5), 0);
        due("share(31)", x.share(31), 0);
        due("share(32)", x.share(32), BAD);
        due("share(-1)", x.share(-1), BAD);
    }

    private static void loss() {
        promise = 8;
        AnsTables x = counted(5, 0, 1, 1, 1, 2, 1);
        due("loss() without SHARES", x.loss(), BAD);
        x.normal();
        due("loss()", x.loss(), 5110161397L);
        x = counted(5, 3, 1000000, 9, 1);
        x.normal();
        due("loss() of unlike ones", x.loss(), 49186706709120L);
        x = counted(12, 3, 1000000, 9, 1);
        x.normal();
        due("loss() at LOG 12", x.loss(), 391125901888L);
        x = counted(12, 7, 9);
        x.normal();
        due("loss() of one alone", x.loss(), 0);
        x.count(7, 9);
        due("loss() when SHARES are none", x.loss(), BAD);
    }

    private static void lg() {
        promise = 9;
        AnsTables x = new AnsTables(5);
        due("lg(1)", x.lg(1), 0);
        due("lg(2)", x.lg(2), 1073741824L);
        due("lg(3)", x.lg(3), 1701840526L);
        due("lg(5)", x.lg(5), 2493151307L);
        due("lg(31)", x.lg(31), 5319527782L);
        due("lg(32)", x.lg(32), 5368709120L);
        due("lg(33)", x.lg(33), BAD);
        due("lg(0)", x.lg(0), BAD);
        due("lg(-5)", x.lg(-5), BAD);
        due("lg(MIN)", x.lg(Integer.MIN_VALUE), BAD);
        x = new AnsTables(12);
        due("lg(33)", x.lg(33), 5416376942L);
        due("lg(4095)", x.lg(4095), 12884523647L);
        due("lg(4096)", x.lg(4096), 12884901888L);
        due("lg(4097)", x.lg(4097), BAD);
        due("lg(MAX)", x.lg(Integer.MAX_VALUE), BAD);
    }

    private static void form() {
        promise = 10;
        AnsTables x = new AnsTables(5);
        due("form(3)", x.form(3), 0);
        due("form(2)", x.form(2), 3);
        due("form(4)", x.form(4), BAD);
        due("form(-1)", x.form(-1), BAD);
        due("form(1)", x.form(1), 2);
        due("form(0)", x.form(0), 1);
        due("told(4)", x.told(4), 0);
    }

    private static void lanes() {
        promise = 11;
        AnsTables x = new AnsTables(5);
        due("lanes(4)", x.lanes(4), 1);
        due("lanes(3)", x.lanes(3), BAD);
        due("lanes(0)", x.lanes(0), BAD);
        due("lanes(-2)", x.lanes(-2), BAD);
        due("lanes(8)", x.lanes(8), BAD);
        due("lanes(2)", x.lanes(2), 4);
        due("lanes(1)", x.lanes(1), 2);
        due("told(5)", x.told(5), 1);
    }

    private static void writeHead() {
        promise = 12;
        for (int form = 0; form < 4; form++) {
            for (int lanes = 1; lanes <= 4; lanes *= 2) {
                AnsTables x = new AnsTables(9);
                x.count(0, 1);
                x.normal();
                x.form(form);
                x.lanes(lanes);
                for (int i = 0; i < 300; i++) {
                    x.add(0);
                }
                int width = new int[] {4, 8, 2, 4}[form];
                due("write() of a sign alone", x.write(), 6 + lanes * width);
                due("first byte", x.out(0), form * 4 + lanes / 2);
                due("LOG", x.out(1), 9);
                due("signs, the higher", x.out(2), 1);
                due("signs, the lower", x.out(3), 44);
                due("the row stays", x.told(1), 300);
                due("read()", x.read(), 300);
            }
        }
    }

    private static void writeTable() {
        promise = 12;
        AnsTables x = halves(0, 1);
        x.write();
        outIs("halves", x, 0, 5, 0, 0, 0x42, 0, 0, 0x80, 0, 0);
        x = counted(5, 31, 1);
        x.normal();
        due("a TABLE of 32 times six bits", x.write(), 4 + 24 + 4);
        due("its last byte", x.out(27), 32);
        x = new AnsTables(5);
        for (int sign = 0; sign < 32; sign++) {
            x.count(sign, 1);
        }
        x.normal();
        // R is 32 once, 31 .. 16, 15 .. 8, 7 .. 4, 3 and 2, 1.
        int bits = 6 + 16 * 5 + 8 * 4 + 4 * 3 + 2 * 2 + 1;
        due("a TABLE of ones", x.write(), 4 + (bits + 7) / 8 + 4);
        due("its first byte", x.out(4), 0b00000100);
        due("its second byte", x.out(5), 0b00100001);
    }

    private static void writeForms() {
        promise = 12;
        AnsTables x = halves(0, 1, 1);
        due("bytes", x.write(), 10);
        outIs("bytes", x, 0, 5, 0, 1, 0x42, 0, 1, 0, 0, 16);
        x = halves(1, 1, 1);
        due("words", x.write(), 14);
        outIs("words", x, 4, 5, 0, 1, 0x42, 0, 0, 0, 0, 1, 0, 0, 0, 16);
        x = halves(2, 1, 1);
        due("table", x.write(), 9);
        outIs("table", x, 8, 5, 0, 1, 0x42, 0, 0, 35, 0);
        x = halves(3, 1, 1);
        due("two-sided", x.write(), 10);
        outIs("two-sided", x, 12, 5, 0, 1, 0x42, 0, 1, 0, 0, 16);
        // The last sign is written first.
        x = halves(0, 1, 0, 1);
        x.write();
        due("row 0 1", x.state(0, 0), (1 << 25) + 32);
        x = halves(0, 1, 1, 0);
        x.write();
        due("row 1 0", x.state(0, 0), (1 << 25) + 16);
        // 0, 1 and 16: bit 4 has p = 22 or so, not the SHARES of the signs.
        x = counted(5, 0, 1, 1, 1, 16, 1);
        x.normal();
        x.form(3);
        x.add(16);
        x.write();
        due("two-sided 16 of 11, 11, 10", x.state(0, 0), 32L * (B23 / 10) + B23 % 10 + 22);
    }

    private static void writeLanes() {
        promise = 12;
        AnsTables x = halves(0, 2, 1, 0, 0);
        due("two LANES", x.write(), 14);
        // Signs 0 and 2 are of state 0, the last one first.
        due("state 0", x.state(0, 0), (1 << 25) + 16);
        due("state 1", x.state(0, 1), 1 << 24);
        outIs("two LANES", x, 1, 5, 0, 3, 0x42, 0, 2, 0, 0, 16, 1, 0, 0, 0);
        x = halves(1, 4, 1, 1);
        due("four LANES", x.write(), 4 + 2 + 32);
        due("state 0", x.state(0, 0), (1L << 32) + 16);
        due("state 1", x.state(0, 1), (1L << 32) + 16);
        due("state 2", x.state(0, 2), B31);
        due("state 3", x.state(0, 3), B31);
    }

    private static void writePutsOut() {
        promise = 12;
        AnsTables x = halves(0, 1, 0, 0, 0, 0, 0, 0, 0, 1);
        // 2^24 + 16 grows to 2^30 + 1024; the eighth sign puts 0 out first: 2^22 + 4, and its rest stays 4.
        due("eight signs in bytes", x.write(), 11);
        outIs("eight signs in bytes", x, 0, 5, 0, 8, 0x42, 0, 0, 0x80, 0, 4, 0);
        due("read()", x.read(), 8);
        x = new AnsTables(5);
        x.count(0, 1);
        x.count(1, 1);
        x.normal();
        x.form(1);
        for (int i = 0; i < 31; i++) {
            x.add(0);
        }
        x.add(1);
        // 2^32 + 16 grows to 2^62 + 2^34; its lowest 32 bits go, 2^30 + 4 is left.
        due("32 signs in words", x.write(), 18);
        due("state", x.state(0, 0), B31 + 4);
        outIs("32 signs in words", x, 4, 5, 0, 32, 0x42, 0, 0, 0, 0, 0, 0x80, 0, 0, 4, 0, 0, 0, 0);
        due("read()", x.read(), 32);
        // The bit of sign 1 is the last one that is read, and 0s come behind.
        x = halves(2, 1, 0, 0, 0, 0, 0, 0, 0, 0, 1);
        due("nine signs in bits", x.write(), 10);
        due("read()", x.read(), 9);
    }

    private static void writeNone() {
        promise = 12;
        AnsTables x = halves(0, 1, 1);
        x.write();
        x.add(2);
        due("a sign without a SHARE", x.write(), NONE);
        outIs("OUT stays", x, 0, 5, 0, 1, 0x42, 0, 1, 0, 0, 16);
        due("state stays", x.state(0, 0), (1 << 24) + 16);
        x.count(2, 1);
        due("no SHARES", x.write(), NONE);
        x.clear();
        due("no SHARES and no row", x.write(), NONE);
        due("OUT stays", x.told(2), 10);
    }

    private static void read() {
        promise = 13;
        reads("an empty row", withOut(EMPTY), 0, 0);
        for (int form = 0; form < 4; form++) {
            for (int lanes = 1; lanes <= 4; lanes *= 2) {
                AnsTables x = counted(8, 0, 70, 3, 9, 17, 3, 31, 1);
                x.normal();
                x.form(form);
                x.lanes(lanes);
                int[] signs = {31, 0, 3, 0, 0, 17, 0, 3, 31, 0, 0, 0, 3, 17, 17, 0, 0, 31, 31, 31, 31, 31, 31};
                for (int sign : signs) {
                    x.add(sign);
                }
                x.write();
                reads("form " + form + " lanes " + lanes, x, signs.length, 0);
                for (int i = 0; i < signs.length; i++) {
                    due("sign(" + i + ")", x.sign(i), signs[i]);
                }
            }
        }
    }

    private static void readKeepsWhatWasRead() {
        promise = 13;
        AnsTables x = halves(0, 1, 0, 0, 0, 0, 0, 0, 0, 1, 1, 0, 1);
        x.write();
        x.read();
        x.cut(1);
        reads("the last byte is gone", x, -10 - x.told(2), 1);
        int kept = x.told(3);
        due("signs before it", kept > 0 && kept < 11 ? 1 : 0, 1);
        due("their last one", x.sign(kept - 1), kept == 8 ? 1 : 0);
        due("no more", x.sign(kept), BAD);
        x.cut(x.told(2) - 3);
        reads("without the header", x, -13, 1);
        due("none", x.told(3), 0);
        due("sign(0)", x.sign(0), BAD);
        // Bytes of words are read one by one, too.
        x = halves(1, 1, new int[32]);
        x.write();
        x.cut(3);
        reads("a word's first byte alone", x, -25, 1);
        due("no sign is read whole", x.told(3), 0);
    }

    private static void readGoesByOut() {
        promise = 13;
        AnsTables x = changed(EMPTY, 2, 255);
        x.spoil(3, 255);
        reads("65,535 signs alone", x, 65535, 0);
        due("the last one", x.sign(65534), 0);
        due("no more", x.sign(65535), BAD);
        due("told(3)", x.told(3), 65535);
        x = withOut(14, 12, 0, 0, 0x80, 0, 0, 0x80, 0, 0, 0, 0x80, 0, 0, 0, 0x80, 0, 0, 0, 0x80, 0, 0);
        reads("another form, LOG and LANES", x, 0, 0);
        due("state(1, 3)", x.state(1, 3), B23);
        due("LOG stays", x.told(0), 5);
        due("the form stays", x.told(4), 0);
        due("LANES stay", x.told(5), 1);
        due("SHARES stay", x.told(6), 0);
    }

    private static void ruleOne() {
        promise = 14;
        due("rule() before a read()", new AnsTables(5).rule(), 0);
        reads("no OUT", new AnsTables(5), -10, 1);
        for (int n = 1; n < EMPTY.length; n++) {
            reads(n + " bytes", withOut(java.util.Arrays.copyOf(EMPTY, n)), -10 - n, 1);
        }
        AnsTables x = halves(2, 1, 1);
        x.write();
        x.cut(1);
        reads("bits that are gone", x, -18, 1);
        x.octet(0);
        reads("and there again", x, 1, 0);
    }

    private static void ruleTwo() {
        promise = 14;
        for (int first : new int[] {3, 7, 11, 15, 16, 64, 255}) {
            reads("first byte " + first, changed(EMPTY, 0, first), -11, 2);
            reads("it alone", withOut(first), -11, 2);
        }
        for (int log : new int[] {0, 4, 13, 255}) {
            reads("LOG " + log, changed(EMPTY, 1, log), -12, 2);
            reads("LOG at the end", withOut(0, log), -12, 2);
        }
        reads("both", withOut(3, 4), -11, 2);
    }

    private static void ruleThree() {
        promise = 14;
        reads("a SHARE of 33", changed(EMPTY, 4, 0x84), -15, 3);
        reads("a bit behind", changed(EMPTY, 4, 0x81), -15, 3);
        reads("another bit behind", changed(EMPTY, 4, 0x82), -15, 3);
        int[] zeros = new int[4 + 24];
        zeros[1] = 5;
        reads("no SHARES", withOut(zeros), -38, 3);
        reads("all but the last sign", changed(zeros, 27, 31), -38, 3);
        AnsTables x = changed(zeros, 27, 32);
        reads("the last sign alone", x, -38, 1);
        // 31, then 1 bit for R = 1, then a bit behind in the same byte.
        reads("31 and 1", withOut(0, 5, 0, 0, 0b01111110, 0, 0x80, 0, 0), 0, 0);
        reads("31 and 1 and a bit", withOut(0, 5, 0, 0, 0b01111111, 0, 0x80, 0, 0), -15, 3);
        // 16, then 17 of 16 over two bytes.
        reads("16 and 17", withOut(0, 5, 0, 0, 0b01000010, 0b00100000, 0, 0, 0), -16, 3);
    }

    private static void ruleFour() {
        promise = 14;
        reads("bytes, too low", withOut(0, 5, 0, 0, 128, 0, 0x7F, 255, 255), -19, 4);
        reads("bytes, too high", withOut(0, 5, 0, 0, 128, 0x80, 0, 0, 0), -19, 4);
        reads("two-sided, too low", withOut(12, 5, 0, 0, 128, 0, 0x7F, 255, 255), -19, 4);
        reads("words, too low", withOut(4, 5, 0, 0, 128, 0, 0, 0, 0, 0x7F, 255, 255, 255), -23, 4);
        reads("words, too high", withOut(4, 5, 0, 0, 128, 0x80, 0, 0, 0, 0x80, 0, 0, 0), -23, 4);
        reads("words, the first", withOut(4, 5, 0, 0, 128, 0, 0, 0, 0, 0x80, 0, 0, 0), 0, 0);
        reads("words, the highest", withOut(4, 5, 0, 0, 128, 0x7F, 255, 255, 255, 255, 255, 255, 255), -23, 5);
        reads("table, too low", withOut(8, 5, 0, 0, 128, 0, 31), -17, 4);
        reads("table, the first", withOut(8, 5, 0, 0, 128, 0, 32), 0, 0);
        reads("table, the highest", withOut(8, 5, 0, 0, 128, 0, 63), -17, 5);
        reads("table, too high", withOut(8, 5, 0, 0, 128, 0, 64), -17, 4);
        reads("the second of four", withOut(10, 5, 0, 0, 128, 0, 32, 0, 31, 0, 32, 0, 32), -19, 4);
    }

    private static void ruleFive() {
        promise = 14;
        AnsTables x = withOut(0, 5, 0, 0, 128, 0, 128, 0, 1);
        reads("bytes", x, -19, 5);
        x.octet(0);
        reads("before bytes that are left", x, -19, 5);
        reads("bytes, the highest", withOut(0, 5, 0, 0, 128, 0x7F, 255, 255, 255), -19, 5);
        reads("the fourth LANE", withOut(10, 5, 0, 0, 128, 0, 32, 0, 32, 0, 32, 0, 33), -23, 5);
        x = halves(2, 1, 1);
        x.write();
        x.spoil(8, 128);
        reads("a bit of a table", x, -19, 5);
        due("the sign was read", x.told(3), 1);
    }

    private static void ruleSix() {
        promise = 14;
        AnsTables x = withOut(EMPTY);
        x.octet(0);
        reads("a byte", x, -19, 6);
        x.octet(7);
        reads("two bytes", x, -19, 6);
        x.cut(2);
        reads("none", x, 0, 0);
        x = halves(2, 1, 1);
        x.write();
        x.spoil(8, 1);
        reads("the last bit", x, -19, 6);
        due("the sign was read", x.told(3), 1);
        x.spoil(8, 65);
        reads("the next bit", x, -19, 6);
        x.spoil(8, 64);
        reads("no bit", x, 1, 0);
        x.octet(0);
        reads("a byte of 0s", x, -19, 6);
    }

    private static void sign() {
        promise = 15;
        AnsTables x = halves(0, 1, 1, 0);
        due("sign(0) before", x.sign(0), BAD);
        x.write();
        due("sign(0) behind write()", x.sign(0), BAD);
        x.read();
        due("sign(0)", x.sign(0), 1);
        due("sign(1)", x.sign(1), 0);
        due("sign(2)", x.sign(2), BAD);
        due("sign(-1)", x.sign(-1), BAD);
        due("sign(MIN)", x.sign(Integer.MIN_VALUE), BAD);
        due("sign(MAX)", x.sign(Integer.MAX_VALUE), BAD);
        x.clear();
        due("the row is another one", x.sign(0), 1);
        x.write();
        x.read();
        due("nothing was read", x.sign(0), BAD);
    }

    private static long spreadOf(AnsTables x, int i) {
        try {
            return x.spread(i);
        } catch (IndexOutOfBoundsException e) {
            return e.getClass() == ArrayIndexOutOfBoundsException.class ? -99 : -98;
        }
    }

    private static void spread() {
        promise = 16;
        AnsTables x = new AnsTables(5);
        due("spread(0) without SHARES", spreadOf(x, 0), NONE);
        due("spread(31) without SHARES", spreadOf(x, 31), NONE);
        due("spread(32) without SHARES", spreadOf(x, 32), -99);
        due("spread(-1) without SHARES", spreadOf(x, -1), -99);
        x = halves(0, 1);
        String ones = "3 4 7 8 9 12 13 16 17 18 21 22 26 27 30 31 ";
        for (int place = 0; place < 32; place++) {
            boolean one = (" " + ones).contains(" " + place + " ");
            due("spread(" + place + ")", spreadOf(x, place), one ? 1 : 0);
        }
        due("spread(32)", spreadOf(x, 32), -99);
        due("spread(-1)", spreadOf(x, -1), -99);
        due("spread(MIN)", spreadOf(x, Integer.MIN_VALUE), -99);
        due("spread(MAX)", spreadOf(x, Integer.MAX_VALUE), -99);
        x.count(0, 0);
        due("SHARES are none", spreadOf(x, 3), NONE);
        x.normal();
        due("spread(0) of other SHARES", spreadOf(x, 0), 1);
        x = counted(12, 5, 1, 6, 4095);
        x.normal();
        due("spread(0)", spreadOf(x, 0), 5);
        due("spread(4095)", spreadOf(x, 4095), 6);
        due("spread(4096)", spreadOf(x, 4096), -99);
    }

    private static void state() {
        promise = 17;
        AnsTables x = halves(0, 2, 1, 0, 0);
        due("state(0, 0) before", x.state(0, 0), BAD);
        due("state(1, 0) before", x.state(1, 0), BAD);
        x.write();
        x.lanes(4);
        due("state(0, 1)", x.state(0, 1), 1 << 24);
        due("state(0, 2)", x.state(0, 2), BAD);
        due("state(0, -1)", x.state(0, -1), BAD);
        due("state(2, 0)", x.state(2, 0), BAD);
        due("state(-1, 0)", x.state(-1, 0), BAD);
        due("state(1, 0) before read()", x.state(1, 0), BAD);
        x.read();
        due("state(1, 0)", x.state(1, 0), B23);
        due("state(1, 1)", x.state(1, 1), B23);
        due("state(1, 2)", x.state(1, 2), BAD);
        due("state(1, -1)", x.state(1, -1), BAD);
        due("state(0, 0) stays", x.state(0, 0), (1 << 25) + 16);
        x.write();
        due("state(0, 3)", x.state(0, 3), B23);
        due("state(1, 3)", x.state(1, 3), BAD);
        x.read();
        due("state(1, 3)", x.state(1, 3), B23);
        due("state(1, 4)", x.state(1, 4), BAD);
    }

    private static void stateOfBrokenRead() {
        promise = 17;
        AnsTables x = withOut(10, 5, 0, 0, 128, 0, 32, 0, 31, 0, 32, 0, 32);
        x.read();
        due("a state out of its span", x.state(1, 0), BAD);
        x.spoil(8, 63);
        x.spoil(12, 1);
        reads("not as at first", x, -23, 5);
        due("state(1, 0)", x.state(1, 0), 32);
        due("state(1, 3)", x.state(1, 3), 33);
        x.cut(1);
        x.read();
        due("the last state is not whole", x.state(1, 0), BAD);
        x = halves(2, 1, 1);
        x.write();
        x.cut(1);
        x.read();
        due("no sign is read whole", x.state(1, 0), 35);
        x = halves(0, 1, new int[8]);
        x.write();
        x.cut(1);
        x.read();
        due("no byte for the first sign", x.state(1, 0), B23);
        twoSidedStateOfBrokenRead();
    }

    private static void twoSidedStateOfBrokenRead() {
        // SHARES 8, 8, 16: of sign 4 the last two bits are written, of 6 the last but one alone.
        AnsTables x = counted(5, 4, 1, 5, 1, 6, 2);
        x.normal();
        sharesAre(x, 4, 8, 5, 8, 6, 16);
        x.form(3);
        for (int i = 0; i < 4; i++) {
            x.add(4);
        }
        x.add(6);
        x.write();
        due("state(0, 0)", x.state(0, 0), (1 << 24) + 4);
        due("read()", x.read(), 5);
        x.cut(1);
        reads("the byte behind the second bit", x, -10 - x.told(2), 1);
        due("no sign is read whole", x.told(3), 0);
        due("one bit is", x.state(1, 0), B23 + 4);
    }

    private static void out() {
        promise = 18;
        AnsTables x = new AnsTables(5);
        due("out(0) before", x.out(0), BAD);
        x.octet(200);
        due("out(0)", x.out(0), 200);
        due("out(1)", x.out(1), BAD);
        due("out(-1)", x.out(-1), BAD);
        due("out(MIN)", x.out(Integer.MIN_VALUE), BAD);
        due("out(MAX)", x.out(Integer.MAX_VALUE), BAD);
        x.cut(1);
        due("out(0) when it is gone", x.out(0), BAD);
    }

    private static void spoil() {
        promise = 19;
        AnsTables x = withOut(0x0F, 0xF0);
        due("spoil(0, 255)", x.spoil(0, 255), 0xF0);
        due("spoil(1, 1)", x.spoil(1, 1), 0xF1);
        due("out(0)", x.out(0), 0xF0);
        due("out(1)", x.out(1), 0xF1);
        due("spoil(0, 0)", x.spoil(0, 0), BAD);
        due("spoil(0, 256)", x.spoil(0, 256), BAD);
        due("spoil(0, -1)", x.spoil(0, -1), BAD);
        due("spoil(2, 1)", x.spoil(2, 1), BAD);
        due("spoil(-1, 1)", x.spoil(-1, 1), BAD);
        due("spoil(MAX, 1)", x.spoil(Integer.MAX_VALUE, 1), BAD);
        due("out(0) stays", x.out(0), 0xF0);
    }

    private static void cut() {
        promise = 20;
        AnsTables x = withOut(1, 2, 3, 4);
        due("cut(0)", x.cut(0), 4);
        due("cut(1)", x.cut(1), 3);
        due("the first ones stay", x.out(2), 3);
        due("the last one is gone", x.out(3), BAD);
        due("cut(4)", x.cut(4), BAD);
        due("cut(-1)", x.cut(-1), BAD);
        due("cut(MIN)", x.cut(Integer.MIN_VALUE), BAD);
        due("cut(MAX)", x.cut(Integer.MAX_VALUE), BAD);
        due("cut(3)", x.cut(3), 0);
        due("cut(1) of nothing", x.cut(1), BAD);
        due("cut(0) of nothing", x.cut(0), 0);
    }

    private static void octet() {
        promise = 21;
        AnsTables x = new AnsTables(5);
        due("octet(255)", x.octet(255), 1);
        due("octet(256)", x.octet(256), 2);
        due("octet(-1)", x.octet(-1), 3);
        due("octet(0x12345)", x.octet(0x12345), 4);
        outIs("lowest 8 bits", x, 255, 0, 255, 0x45);
        for (int n = 5; n <= 8000; n++) {
            due("octet", x.octet(n), n);
        }
        due("octet to 8,000", x.octet(1), FULL);
        due("told(2)", x.told(2), 8000);
        due("out(7999)", x.out(7999), 8000 & 255);
        due("cut(1)", x.cut(1), 7999);
        due("octet(9)", x.octet(9), 8000);
        due("out(7999)", x.out(7999), 9);
    }

    private static void agree() {
        promise = 22;
        AnsTables x = new AnsTables(5);
        due("agree() without SHARES", x.agree(), NONE);
        x = halves(1, 2, 1, 0, 1);
        due("agree()", x.agree(), 1);
        due("the form stays", x.told(4), 1);
        due("LANES stay", x.told(5), 2);
        outIs("OUT is of form 3", x, 13, 5, 0, 3, 0x42, 0, 2, 0, 0, 48, 1, 0, 0, 0);
        due("signs read", x.told(3), 3);
        due("sign(2)", x.sign(2), 1);
        due("rule()", x.rule(), 0);
        due("state(0, 0)", x.state(0, 0), (1 << 25) + 48);
        due("state(1, 1)", x.state(1, 1), B23);
        x.add(9);
        due("a sign without a SHARE", x.agree(), NONE);
        due("OUT stays", x.told(2), 14);
        x.clear();
        due("an empty row", x.agree(), 1);
        due("no sign was read", x.told(3), 0);
        for (int log = 5; log <= 12; log++) {
            x = counted(log, 0, 1000000, 1, 1, 30, 1000, 31, 30);
            x.normal();
            for (int i = 0; i < 200; i++) {
                x.add(new int[] {0, 1, 30, 31}[i * i % 7 % 4]);
            }
            for (int lanes = 1; lanes <= 4; lanes *= 2) {
                x.lanes(lanes);
                due("agree() at LOG " + log, x.agree(), 1);
            }
        }
    }

    private static void told() {
        promise = 23;
        AnsTables x = halves(2, 4, 1, 0);
        x.add(1);
        x.write();
        x.read();
        x.add(0);
        int[] all = {5, 4, 15, 3, 2, 4, 1};
        for (int what = 0; what < all.length; what++) {
            due("told(" + what + ")", x.told(what), all[what]);
        }
        due("told(7)", x.told(7), BAD);
        due("told(-1)", x.told(-1), BAD);
        due("told(MAX)", x.told(Integer.MAX_VALUE), BAD);
        x.count(3, 3);
        due("told(6) when SHARES are none", x.told(6), 0);
    }
}
