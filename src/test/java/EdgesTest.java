import java.io.IOException;
import java.nio.file.Files;
import java.nio.file.Path;
import java.util.ArrayList;
import java.util.Arrays;
import java.util.List;
import java.util.Random;
import java.util.function.IntSupplier;
import java.util.regex.Matcher;
import java.util.regex.Pattern;

/**
 * One test for each sentence of the document that names an edge or a refused call. A test is kept
 * with the sentence's own words, so that a sentence of the document without a test can be found.
 */
public final class EdgesTest {
    private static final int BAD = -1;
    private static final int NONE = -2;
    private static final int FULL = -3;
    private static final int THROWN = -99;
    private static final int MIN = Integer.MIN_VALUE;
    private static final int MAX = Integer.MAX_VALUE;
    private static final int B23 = 1 << 23;
    private static final long B31 = 1L << 31;
    private static final int[] NO_SIGNS = {-1, 32, 33, 64, -32, MIN, MAX};
    /** LOG 5, one LANE, no sign, all of the SHARES at sign 0, and the first state. */
    private static final int[] EMPTY = {0, 5, 0, 0, 128, 0, 128, 0, 0};
    private static final Path DOCUMENT = Path.of("../shared/DOC.md");

    private static final List<Edge> EDGES = new ArrayList<>();
    private static String at = "";
    private static int checks = 0;
    private static int wrong = 0;

    private EdgesTest() {
    }

    /** The promise is 0 where the words stand under 'Terms'. */
    private record Edge(int promise, String words, Runnable test) {
    }

    private static void edge(int promise, String words, Runnable test) {
        EDGES.add(new Edge(promise, words, test));
    }

    public static void main(String[] args) throws IOException {
        termsOfShares();
        termsOfForms();
        termsOfReading();
        promisesOfTheRow();
        promisesOfShares();
        promisesOfWriting();
        promisesOfReading();
        promisesOfOut();
        for (Edge edge : EDGES) {
            at = (edge.promise == 0 ? "terms" : "promise " + edge.promise) + ", '" + edge.words + "'";
            int before = checks;
            runWithoutThrow(edge.test);
            holds("something is tested", checks > before);
        }
        at = "LANGUAGE.md, rule 7";
        for (int i = 0; i < 30; i++) {
            int seed = i;
            runWithoutThrow(() -> callAllWithAnything(seed));
        }
        if (Files.exists(DOCUMENT)) {
            holdAgainst(Files.readString(DOCUMENT));
        }
        System.out.println(EDGES.size() + " sentences, " + checks + " checks of them, " + wrong + " are not as due");
        if (wrong != 0) {
            System.exit(1);
        }
    }

    private static void runWithoutThrow(Runnable test) {
        try {
            test.run();
        } catch (RuntimeException | StackOverflowError | OutOfMemoryError e) {
            holds("no " + e, false);
        }
    }

    /** Each test quotes the document, and each refusal that the document names is quoted by a test. */
    private static void holdAgainst(String document) {
        String text = document.replaceAll("\\s+", " ");
        String[] parts = text.split("## Promise \\d+: ");
        for (Edge edge : EDGES) {
            at = "'" + edge.words + "'";
            holds("the document says so", edge.promise < parts.length && parts[edge.promise].contains(edge.words));
        }
        for (int promise = 1; promise < parts.length; promise++) {
            Matcher refusal = Pattern.compile("(BAD|NONE|FULL|[A-Z]\\w+Exception)( \\(- 1\\))?: (?:[^.]|\\.\\.)*\\.")
                .matcher(parts[promise].replaceAll("## Not promised.*", "").replaceFirst("`[^`]*`", ""));
            while (refusal.find()) {
                int of = promise;
                String said = refusal.group();
                at = "promise " + of + ", '" + said + "'";
                holds("it has a test", EDGES.stream().anyMatch(e -> e.promise == of && said.contains(e.words)));
            }
        }
    }

    private static void termsOfShares() {
        edge(0, "SIGNS are 0 .. 31", EdgesTest::signsAreZeroTo31);
        edge(0, "each has a COUNT (0 at first)", EdgesTest::countsAreZeroAtFirst);
        edge(0, "its whole part is the place of c's highest bit", EdgesTest::wholePartOfLg);
        edge(0, "if it is 2^31 or more: the next bit is 1 (the highest first), x halved (whole); else 0",
            EdgesTest::bitsOfLg);
        edge(0, "each sign with a COUNT has a SHARE of 1", EdgesTest::shareOfOneAtLeast);
        edge(0, "then, till all are SIZE together", EdgesTest::allAreSizeTogether);
        edge(0, "(of like ones the least sign)", EdgesTest::ofLikeOnesTheLeast);
        edge(0, "LOSS: the sum of COUNTS times (LOG 2^30 - LG(SHARE))", EdgesTest::greatestLoss);
        edge(0, "FROM of a sign: the SHARES of lesser ones together", EdgesTest::fromOfFirstAndLast);
    }

    private static void termsOfForms() {
        edge(0, "The row's sign i is written by state i modulo LANES (1, 2, 4), from the last sign to the first",
            EdgesTest::lanesTakeTurns);
        edge(0, "A sign alone (its SHARE is SIZE) puts out nothing, and changes no state (form 3 likewise).",
            EdgesTest::signAlone);
        edge(0, "0 bytes: states 2^23 .. 2^31 - 1, 2^23 at first.", () -> spanOfStates(0, B23, B31 - 1));
        edge(0, "while the state is 2^31 / SIZE times f or more: its lowest 8 bits are put out, it is divided by 256.",
            EdgesTest::bytesArePutOut);
        edge(0, "while it is below 2^23: times 256 and the next byte.", EdgesTest::bytesAreTakenBack);
        edge(0, "1 words: states 2^31 .. 2^63 - 1, 2^31 at first", () -> spanOfStates(1, B31, Long.MAX_VALUE));
        edge(0, "likewise with 2^63 / SIZE times f, 32 bits each time", EdgesTest::wordsArePutOut);
        edge(0, "(four bytes, read the highest first)", EdgesTest::wordsHighestFirst);
        edge(0, "2 table: states SIZE .. 2 SIZE - 1, SIZE at first.", () -> spanOfStates(2, 32, 63));
        edge(0, "the first at place 0, each next one at SIZE / 2 + SIZE / 8 + 3 more, modulo SIZE.",
            EdgesTest::spreadGoesRound);
        edge(0, "bits are put out (the lowest of the state, halved) while the state is 2 f or more",
            EdgesTest::bitsArePutOut);
        edge(0, "while that is below SIZE: doubled, and the next bit.", EdgesTest::bitsAreTakenBack);
        edge(0, "Bits are put together as they are read, the highest of a byte first; 0s behind.",
            EdgesTest::bitsAreFilledUp);
        edge(0, "p is (that times SIZE + all / 2) / all (whole)", EdgesTest::sidesAreRounded);
        edge(0, "bound to 1 .. SIZE - 1", EdgesTest::sidesAreBound);
        edge(0, "Where all are on one side nothing is written.", EdgesTest::oneSideIsNotWritten);
        edge(0, "a byte: the form times 4, and 0, 1, 2 for LANES 1, 2, 4; LOG; how many signs (2, the higher first)",
            EdgesTest::headOfOut);
        edge(0, "the states of the LANES, from 0 on (4 bytes; form 1: 8; form 2: 2; the highest first)",
            EdgesTest::statesInOut);
        edge(0, "while R (SIZE less the SHARES before) is above 0", EdgesTest::tableEndsWithR);
        edge(0, "the SHARE, in as many bits as R has", EdgesTest::bitsOfATable);
        edge(0, "the highest first, 0s to a whole byte behind.", EdgesTest::tableIsFilledUp);
    }

    private static void termsOfReading() {
        edge(0, "1 OUT ends too early", EdgesTest::outEndsTooEarly);
        edge(0, "2 a first byte, a LOG (5 .. 12) that is none (behind each of the two)", EdgesTest::noFirstByteNoLog);
        edge(0, "a SHARE above R", EdgesTest::shareAboveR);
        edge(0, "signs at an end with R left", EdgesTest::signsAtAnEnd);
        edge(0, "a bit behind that is no 0 (behind its last byte)", EdgesTest::bitBehindATable);
        edge(0, "4 a state that is out of its span (behind it)", EdgesTest::stateOutOfItsSpan);
        edge(0, "5 when all signs were read: a state that is not as at first", EdgesTest::stateNotAsAtFirst);
        edge(0, "6 bytes are left", EdgesTest::bytesAreLeft);
        edge(0, "(of form 2: also a bit left that is no 0)", EdgesTest::bitIsLeft);
        edge(0, "Without signs the TABLE is there, too.", EdgesTest::tableWithoutSigns);
    }

    private static void promisesOfTheRow() {
        edge(1, "LOG 5 .. 12", EdgesTest::logsOfTheirOwn);
        edge(1, "(others as the nearest)", EdgesTest::logsAsTheNearest);
        edge(1, "form 0, one LANE, no COUNTS, an empty row.", EdgesTest::newObject);
        edge(2, "One more sign of the row: how many it has.", EdgesTest::addCountsUp);
        edge(2, "BAD: no sign.", EdgesTest::addNoSign);
        edge(2, "FULL: 1,000.", EdgesTest::addToFull);
        edge(3, "The row is empty: how many it had.", EdgesTest::clearEmpties);
        edge(3, "The row is empty: how many it had.", EdgesTest::clearOfEmptyAndFull);
    }

    private static void promisesOfShares() {
        edge(4, "A COUNT (0 .. 1,000,000): what it was", EdgesTest::countLeastAndGreatest);
        edge(4, "SHARES are none then.", EdgesTest::countForgetsShares);
        edge(4, "BAD: none such.", EdgesTest::countNoneSuch);
        edge(5, "COUNTS become those of the row", EdgesTest::countsOfTheRow);
        edge(5, "how many signs have one", EdgesTest::countsOfNoneAndAll);
        edge(5, "SHARES are none then.", EdgesTest::countsForgetShares);
        edge(6, "SHARES are made: how many signs have one.", EdgesTest::normalOfOneAndAll);
        edge(6, "NONE: no sign has a COUNT (SHARES are none).", EdgesTest::normalWithoutCounts);
        edge(7, "A sign's SHARE (0: none).", EdgesTest::shareOfNone);
        edge(7, "BAD: no sign.", EdgesTest::shareOfNoSign);
        edge(8, "LOSS.", EdgesTest::lossOfASignAlone);
        edge(8, "BAD: there are no SHARES.", EdgesTest::lossWithoutShares);
        edge(9, "LG of c.", EdgesTest::lgOfOneAndSize);
        edge(9, "BAD: it is not 1 .. SIZE.", EdgesTest::lgOutside);
        edge(10, "The form (0 .. 3): what it was.", EdgesTest::formLeastAndGreatest);
        edge(10, "BAD: none such.", EdgesTest::formNoneSuch);
        edge(11, "LANES (1, 2, 4): how many there were.", EdgesTest::lanesOneTwoFour);
        edge(11, "BAD: another number.", EdgesTest::lanesAnother);
    }

    private static void promisesOfWriting() {
        edge(12, "The row is written: how many bytes OUT has", EdgesTest::writeTakesThePlaceOfOut);
        edge(12, "(the row stays)", EdgesTest::writeLeavesTheRow);
        edge(12, "NONE: there are no SHARES", EdgesTest::writeWithoutShares);
        edge(12, "or a sign of the row has none", EdgesTest::writeSignWithoutShare);
        edge(12, "(OUT stays).", EdgesTest::refusedWriteLeavesOut);
        edge(16, "The sign at place i of SPREAD, by the SHARES.", EdgesTest::spreadFirstAndLast);
        edge(16, "ArrayIndexOutOfBoundsException: no such place.", EdgesTest::spreadNoSuchPlace);
        edge(16, "NONE: there are no SHARES.", EdgesTest::spreadWithoutShares);
        edge(22, "The row is written and read in all four forms", EdgesTest::agreeOnEdges);
        edge(22, "LANES as they are; OUT and what was read are those of form 3 then, the form stays",
            EdgesTest::agreeLeavesFormThree);
        edge(22, "1 if each gave the row, else 0.", EdgesTest::agreeOfAnEmptyRow);
        edge(22, "NONE: as write().", EdgesTest::agreeRefused);
    }

    private static void promisesOfReading() {
        edge(13, "OUT is read: how many signs", EdgesTest::readNoneAndMost);
        edge(13, "- 10 less the bytes that were read when a RULE was seen broken", EdgesTest::readTellsBytes);
        edge(13, "what was read stays", EdgesTest::whatWasReadStays);
        edge(13, "without the header none", EdgesTest::withoutTheHeaderNone);
        edge(13, "All goes by what OUT tells.", EdgesTest::allGoesByOut);
        edge(14, "The RULE that the last read() saw broken", EdgesTest::ruleOfTheLastRead);
        edge(14, "0: none, or none was read.", EdgesTest::noRule);
        edge(15, "The i-th sign that the last read() read.", EdgesTest::signFirstAndLast);
        edge(15, "BAD: none such.", EdgesTest::signNoneSuch);
        edge(17, "The state of a LANE behind the last write() that was done (what 0, its LANES)",
            EdgesTest::stateBehindWrite);
        edge(17, "(1: behind the last sign, of form 3 the last bit, that was read whole)",
            EdgesTest::stateBehindRead);
        edge(17, "BAD (- 1): none such", EdgesTest::stateNoneSuch);
        edge(17, "or neither was", EdgesTest::stateOfNeither);
        edge(17, "(of read(): it did not read all states in their span)", EdgesTest::stateOfPoorRead);
    }

    private static void promisesOfOut() {
        edge(18, "Byte i of OUT.", EdgesTest::outFirstAndLast);
        edge(18, "BAD: none such.", EdgesTest::outNoneSuch);
        edge(19, "A byte of OUT is xored: what it is.", EdgesTest::spoilFirstAndLast);
        edge(19, "BAD: no such place", EdgesTest::spoilNoSuchPlace);
        edge(19, "mask 1 .. 255.", EdgesTest::spoilMask);
        edge(20, "The last n bytes of OUT go: how many are left.", EdgesTest::cutNoneAndAll);
        edge(20, "BAD: it has not so many", EdgesTest::cutTooMany);
        edge(20, "n below 0.", EdgesTest::cutBelowZero);
        edge(21, "A byte comes behind OUT (its lowest 8 bits): how many it has.", EdgesTest::octetLowestBits);
        edge(21, "FULL: 8,000.", EdgesTest::octetToFull);
        edge(23, "0 LOG, 1 signs of the row, 2 bytes of OUT, 3 signs read, 4 the form, 5 LANES,"
            + " 6 whether there are SHARES.", EdgesTest::toldOfAll);
        edge(23, "BAD: another number.", EdgesTest::toldAnother);
    }

    // ---- what the tests are made of

    private static void due(String what, long got, long want) {
        checks++;
        if (got != want) {
            wrong++;
            System.out.println(at + ": " + what + " answered " + got + ", due is " + want);
        }
    }

    private static void holds(String what, boolean so) {
        due(what, so ? 1 : 0, 1);
    }

    private static AnsTables counted(int log, int... signsAndCounts) {
        AnsTables x = new AnsTables(log);
        for (int i = 0; i < signsAndCounts.length; i += 2) {
            x.count(signsAndCounts[i], signsAndCounts[i + 1]);
        }
        return x;
    }

    /** Signs with SHARES, and a row to be written. */
    private static AnsTables ready(AnsTables counted, int form, int lanes, int... row) {
        counted.normal();
        counted.form(form);
        counted.lanes(lanes);
        for (int sign : row) {
            counted.add(sign);
        }
        return counted;
    }

    /** Signs 0 and 1 with half of 32 each: a state x becomes 2 x, or 2 x + 16 for sign 1. */
    private static AnsTables halves(int form, int lanes, int... row) {
        return ready(counted(5, 0, 1, 1, 1), form, lanes, row);
    }

    private static AnsTables written(AnsTables x) {
        x.write();
        return x;
    }

    private static AnsTables withOut(int... bytes) {
        AnsTables x = new AnsTables(5);
        for (int b : bytes) {
            x.octet(b);
        }
        return x;
    }

    private static AnsTables changed(int[] bytes, int place, int value) {
        int[] all = bytes.clone();
        all[place] = value;
        return withOut(all);
    }

    /** OUT of a LOG of 5 without put out bytes: sign 0 has all SHARES. */
    private static int[] outOf(int form, int lanes, int signs, long... states) {
        int width = form == 1 ? 8 : form == 2 ? 2 : 4;
        int[] bytes = new int[5 + states.length * width];
        bytes[0] = form * 4 + lanes / 2;
        bytes[1] = 5;
        bytes[2] = signs >> 8;
        bytes[3] = signs & 255;
        bytes[4] = 128;
        for (int i = 0; i < states.length * width; i++) {
            bytes[5 + i] = (int) (states[i / width] >>> 8 * (width - 1 - i % width)) & 255;
        }
        return bytes;
    }

    private static long first(int form) {
        return form == 1 ? B31 : form == 2 ? 32 : B23;
    }

    private static void bytesAre(String what, AnsTables x, int... bytes) {
        due(what + ": bytes of OUT", x.told(2), bytes.length);
        for (int i = 0; i < bytes.length; i++) {
            due(what + ": out(" + i + ")", x.out(i), bytes[i]);
        }
    }

    private static void reads(String what, AnsTables x, int answer, int rule) {
        due(what + ": read()", x.read(), answer);
        due(what + ": rule()", x.rule(), rule);
    }

    private static void sharesAre(String what, AnsTables x, int... signsAndShares) {
        int[] all = new int[32];
        for (int i = 0; i < signsAndShares.length; i += 2) {
            all[signsAndShares[i]] = signsAndShares[i + 1];
        }
        for (int sign = 0; sign < 32; sign++) {
            due(what + ": share(" + sign + ")", x.share(sign), all[sign]);
        }
    }

    private static int spreadOf(AnsTables x, int i) {
        try {
            return x.spread(i);
        } catch (RuntimeException e) {
            return e.getClass() == ArrayIndexOutOfBoundsException.class ? THROWN : THROWN - 1;
        }
    }

    /** All that an object shows without being changed. */
    private static List<Long> shown(AnsTables x) {
        List<Long> all = new ArrayList<>(List.of(x.loss(), (long) x.rule()));
        for (int what = 0; what <= 6; what++) {
            all.add((long) x.told(what));
        }
        for (int sign = 0; sign < 32; sign++) {
            all.add((long) x.share(sign));
        }
        for (int lane = 0; lane < 4; lane++) {
            all.addAll(List.of(x.state(0, lane), x.state(1, lane)));
        }
        for (int i = 0; i < 1 << x.told(0); i++) {
            all.add((long) spreadOf(x, i));
        }
        for (int i = 0; i < x.told(2); i++) {
            all.add((long) x.out(i));
        }
        for (int i = 0; i < x.told(3); i++) {
            all.add((long) x.sign(i));
        }
        return all;
    }

    /** A call that is refused answers so, and changes nothing. */
    private static void refused(String what, AnsTables x, IntSupplier call, int answer) {
        List<Long> before = shown(x);
        due(what, call.getAsInt(), answer);
        holds("nothing changes behind " + what, shown(x).equals(before));
    }

    /** An object that has something of all: SHARES, a row, OUT, signs that were read, states. */
    private static AnsTables busy() {
        AnsTables x = ready(counted(5, 0, 3, 1, 1, 31, 2), 2, 2, 0, 1, 31, 0, 0);
        x.write();
        x.read();
        x.add(1);
        return x;
    }

    private static int[] zeros(int howMany) {
        return new int[howMany];
    }

    private static int[] joined(int[] one, int... other) {
        int[] all = Arrays.copyOf(one, one.length + other.length);
        System.arraycopy(other, 0, all, one.length, other.length);
        return all;
    }

    /** SHARES of 1 for sign 0, and all others for sign 1. */
    private static AnsTables oneOfSize(int log, int form, int... row) {
        return ready(counted(log, 0, 1, 1, 1000000), form, 1, row);
    }

    /** Calls with arguments from one end to the other, in an order of their own for each seed. */
    private static void callAllWithAnything(int seed) {
        int[] anything = {MIN, MIN + 1, -65536, -4096, -33, -32, -5, -4, -3, -2, -1, 0, 1, 2, 3, 4, 5, 7, 8, 12, 13, 31,
            32, 33, 63, 64, 127, 128, 255, 256, 999, 1000, 4095, 4096, 4097, 8000, 1000000, 1000001, MAX - 1, MAX};
        Random random = new Random(seed);
        AnsTables x = new AnsTables(anything[random.nextInt(anything.length)]);
        for (int i = 0; i < 5000; i++) {
            int a = anything[random.nextInt(anything.length)];
            int b = anything[random.nextInt(anything.length)];
            call(x, random.nextInt(25), a, b);
        }
        holds("the row is no longer than 1,000", x.told(1) >= 0 && x.told(1) <= 1000);
        holds("OUT is no longer than 8,000", x.told(2) >= 0 && x.told(2) <= 8000);
    }

    private static void call(AnsTables x, int which, int a, int b) {
        switch (which) {
            case 0 -> x.add(a);
            case 1 -> x.clear();
            case 2 -> x.count(a, b);
            case 3 -> x.counts();
            case 4 -> x.normal();
            case 5 -> x.share(a);
            case 6 -> x.loss();
            case 7 -> x.lg(a);
            case 8 -> x.form(a);
            case 9 -> x.lanes(a);
            case 10 -> x.write();
            case 11 -> x.read();
            case 12 -> x.rule();
            case 13 -> x.sign(a);
            case 14 -> holds("spread(" + a + ")", spreadOf(x, a) != THROWN - 1);
            case 15 -> x.state(a, b);
            case 16 -> x.state(a & 1, b);
            case 17 -> x.out(a);
            case 18 -> x.spoil(a, b);
            case 19 -> x.cut(a);
            case 20 -> x.octet(a);
            case 21 -> x.agree();
            case 22 -> x.told(a);
            case 23 -> x.add(a & 7);
            default -> x.count(a & 7, b & 1023);
        }
    }

    // ---- terms: 1 SHARES

    private static void signsAreZeroTo31() {
        for (int sign = 0; sign < 32; sign++) {
            AnsTables x = new AnsTables(5);
            due("count(" + sign + ", 1)", x.count(sign, 1), 0);
            due("add(" + sign + ")", x.add(sign), 1);
            x.normal();
            due("share(" + sign + ")", x.share(sign), 32);
            due("agree() on " + sign, x.agree(), 1);
            due("sign(0)", x.sign(0), sign);
        }
        for (int none : NO_SIGNS) {
            AnsTables x = new AnsTables(5);
            due("count(" + none + ", 1)", x.count(none, 1), BAD);
            due("add(" + none + ")", x.add(none), BAD);
            due("share(" + none + ")", x.share(none), BAD);
            due("normal()", x.normal(), NONE);
        }
    }

    private static void countsAreZeroAtFirst() {
        AnsTables x = new AnsTables(5);
        for (int sign = 0; sign < 32; sign++) {
            due("count(" + sign + ", 0)", x.count(sign, 0), 0);
        }
    }

    private static void wholePartOfLg() {
        AnsTables x = new AnsTables(12);
        for (int k = 0; k <= 12; k++) {
            due("lg(2^" + k + ")", x.lg(1 << k), (long) k << 30);
        }
        for (int k = 2; k <= 12; k++) {
            due("whole part of lg(2^" + k + " - 1)", x.lg((1 << k) - 1) >> 30, k - 1);
            due("whole part of lg(2^" + k + " + 1)", k < 12 ? x.lg((1 << k) + 1) >> 30 : k, k);
        }
    }

    private static void bitsOfLg() {
        AnsTables x = new AnsTables(12);
        due("lg(3)", x.lg(3), 1701840526L);
        due("lg(5)", x.lg(5), 2493151307L);
        due("lg(31)", x.lg(31), 5319527782L);
        due("lg(4095)", x.lg(4095), 12884523647L);
        for (int c = 2; c <= 4096; c++) {
            holds("lg(" + c + ") is above the one before", x.lg(c) > x.lg(c - 1));
        }
    }

    private static void shareOfOneAtLeast() {
        AnsTables x = counted(5, 0, 1000000, 1, 1, 2, 1);
        x.normal();
        sharesAre("one great COUNT", x, 0, 30, 1, 1, 2, 1);
        x = counted(5, 7, 1000000);
        int[] ones = new int[64];
        for (int sign = 0; sign < 32; sign++) {
            x.count(sign, sign == 7 ? 1000000 : 1);
            ones[2 * sign] = sign;
            ones[2 * sign + 1] = 1;
        }
        x.normal();
        sharesAre("as many signs as SIZE", x, ones);
    }

    private static void allAreSizeTogether() {
        for (int log = 5; log <= 12; log++) {
            AnsTables x = new AnsTables(log);
            for (int sign = 0; sign < 32; sign++) {
                x.count(sign, 1 + sign * sign * sign * 33);
                x.normal();
                int sum = 0;
                for (int each = 0; each < 32; each++) {
                    sum += x.share(each);
                }
                due("SHARES of " + (sign + 1) + " signs at LOG " + log, sum, 1 << log);
            }
        }
    }

    private static void ofLikeOnesTheLeast() {
        AnsTables x = counted(5, 31, 7, 9, 7, 4, 7);
        x.normal();
        sharesAre("three like ones", x, 4, 11, 9, 11, 31, 10);
        x = counted(12, 31, 1000000, 30, 1000000, 0, 1000000);
        x.normal();
        sharesAre("three like ones at LOG 12", x, 0, 1366, 30, 1365, 31, 1365);
    }

    private static void greatestLoss() {
        for (int log : new int[] {5, 12}) {
            AnsTables x = new AnsTables(log);
            for (int sign = 0; sign < 32; sign++) {
                x.count(sign, 1000000);
            }
            x.normal();
            due("loss() of 32,000,000 at LOG " + log, x.loss(), 32000000L * 5 << 30);
        }
    }

    private static void fromOfFirstAndLast() {
        int[][] signShareFrom = {{0, 11, 0}, {1, 11, 11}, {31, 10, 22}};
        for (int[] each : signShareFrom) {
            AnsTables x = written(ready(counted(5, 0, 1, 1, 1, 31, 1), 0, 1, each[0]));
            due("state behind sign " + each[0], x.state(0, 0), 32 * (B23 / each[1]) + B23 % each[1] + each[2]);
        }
    }

    // ---- terms: 2 FORMS

    private static void lanesTakeTurns() {
        AnsTables x = written(halves(0, 1, 1, 0));
        due("one LANE: 0, then 1", x.state(0, 0), 4 * B23 + 16);
        x = written(halves(0, 2, 1, 0, 0));
        due("two LANES: signs 2 and 0", x.state(0, 0), 4 * B23 + 16);
        due("two LANES: sign 1", x.state(0, 1), 2 * B23);
        x = written(halves(0, 4, 1, 0, 0, 1, 1));
        due("four LANES: signs 4 and 0", x.state(0, 0), 4 * B23 + 48);
        due("four LANES: sign 1", x.state(0, 1), 2 * B23);
        due("four LANES: sign 2", x.state(0, 2), 2 * B23);
        due("four LANES: sign 3", x.state(0, 3), 2 * B23 + 16);
    }

    private static void signAlone() {
        for (int form = 0; form < 4; form++) {
            for (int log = 5; log <= 12; log++) {
                for (int sign : new int[] {0, 13, 31}) {
                    int[] row = zeros(40);
                    Arrays.fill(row, sign);
                    AnsTables x = written(ready(counted(log, sign, 9), form, 4, row));
                    int table = ((sign + 1) * (log + 1) + 7) / 8;
                    due("bytes of OUT", x.told(2), 4 + table + 4 * (form == 1 ? 8 : form == 2 ? 2 : 4));
                    due("its state", x.state(0, 3), form == 2 ? 1 << log : first(form));
                    due("read()", x.read(), 40);
                }
            }
            long greatest = form == 1 ? Long.MAX_VALUE : form == 2 ? 63 : B31 - 1;
            AnsTables x = withOut(outOf(form, 1, 9, greatest));
            reads("the greatest state of form " + form, x, -10 - x.told(2), 5);
            due("signs read", x.told(3), 9);
            due("the greatest state stays", x.state(1, 0), greatest);
        }
    }

    private static void spanOfStates(int form, long least, long greatest) {
        AnsTables x = written(halves(form, 1));
        due("the state at first", x.state(0, 0), least);
        reads("the least", withOut(outOf(form, 1, 0, least)), 0, 0);
        int behind = -10 - outOf(form, 1, 0, least).length;
        reads("below the least", withOut(outOf(form, 1, 0, least - 1)), behind, 4);
        reads("0", withOut(outOf(form, 1, 0, 0)), behind, 4);
        reads("the greatest", withOut(outOf(form, 1, 0, greatest)), behind, 5);
        reads("above the greatest", withOut(outOf(form, 1, 0, greatest + 1)), behind, 4);
        reads("all bits", withOut(outOf(form, 1, 0, -1)), behind, 4);
    }

    private static void bytesArePutOut() {
        AnsTables x = written(halves(0, 1, zeros(7)));
        due("below 2^30", x.told(2), 10);
        due("its state", x.state(0, 0), 1 << 30);
        x = written(halves(0, 1, zeros(8)));
        bytesAre("just 2^30", x, 0, 5, 0, 8, 0x42, 0, 0, 0x80, 0, 0, 0);
        x = written(halves(0, 1, 0, 1, 0, 0, 0, 0, 0, 0));
        bytesAre("2^30 + 16", x, 0, 5, 0, 8, 0x42, 0, 0, 0x80, 0, 0, 16);
        // 2^23 puts out one byte, and becomes 2^27; that puts out two, since 2^19 is the bound itself.
        x = written(oneOfSize(12, 0, 0));
        due("one byte", x.told(2), 13);
        due("its state", x.state(0, 0), 1 << 27);
        x = written(oneOfSize(12, 0, 0, 0));
        due("two bytes more", x.told(2), 15);
        due("its state", x.state(0, 0), B23);
    }

    private static void bytesAreTakenBack() {
        AnsTables x = written(halves(0, 1, zeros(8)));
        reads("just 2^23 wants none", x, 8, 0);
        x.cut(1);
        reads("2^22 wants one", x, -20, 1);
        x = written(oneOfSize(12, 0, 0, 0));
        reads("two bytes, then one", x, 2, 0);
        x.cut(1);
        reads("two bytes alone", x, -24, 1);
        due("one sign", x.told(3), 1);
        due("its state", x.state(1, 0), 1 << 27);
        x.cut(1);
        reads("one byte of two", x, -23, 1);
        due("no sign", x.told(3), 0);
        due("the state before", x.state(1, 0), B23);
    }

    private static void wordsArePutOut() {
        AnsTables x = written(halves(1, 1, zeros(31)));
        due("below 2^62", x.told(2), 14);
        due("its state", x.state(0, 0), 1L << 62);
        reads("no word", x, 31, 0);
        x = written(halves(1, 1, zeros(32)));
        bytesAre("just 2^62", x, 4, 5, 0, 32, 0x42, 0, 0, 0, 0, 0, 0x80, 0, 0, 0, 0, 0, 0, 0);
        reads("one word", x, 32, 0);
        x.cut(4);
        reads("2^30 wants a word", x, -24, 1);
        due("the state before", x.state(1, 0), B31);
        // A SHARE of 1 has the bound 2^51: 2^31 becomes 2^43, and then 2^55, that puts out a word.
        x = written(oneOfSize(12, 1, 0, 0));
        due("below 2^51", x.told(2), 16);
        due("its state", x.state(0, 0), 1L << 55);
        x = written(oneOfSize(12, 1, 0, 0, 0));
        due("above it", x.told(2), 20);
        due("its state", x.state(0, 0), 1L << 35);
        reads("it", x, 3, 0);
    }

    private static void wordsHighestFirst() {
        int[] row = zeros(32);
        // A 1 that n signs follow till the word is put out is 2^(4 + n) there.
        for (int n : new int[] {0, 8, 16, 25}) {
            row[1 + n] = 1;
        }
        AnsTables x = written(halves(1, 1, row));
        bytesAre("a word of 2^29, 2^20, 2^12, 2^4", x,
            4, 5, 0, 32, 0x42, 0, 0, 0, 0, 0, 0x80, 0, 0, 0, 0x20, 0x10, 0x10, 0x10);
        reads("it", x, 32, 0);
        for (int i = 0; i < 32; i++) {
            due("sign(" + i + ")", x.sign(i), row[i]);
        }
    }

    private static void spreadGoesRound() {
        AnsTables x = halves(0, 1);
        String ones = " 3 4 7 8 9 12 13 16 17 18 21 22 26 27 30 31 ";
        for (int place = 0; place < 32; place++) {
            due("spread(" + place + ")", spreadOf(x, place), ones.contains(" " + place + " ") ? 1 : 0);
        }
        for (int log = 5; log <= 12; log++) {
            int size = 1 << log;
            x = ready(counted(log, 4, 1000000, 5, 1), 0, 1);
            int last = size - (size / 2 + size / 8 + 3);
            for (int place = 0; place < size; place++) {
                due("spread(" + place + ") at LOG " + log, spreadOf(x, place), place == last ? 5 : 4);
            }
            x = oneOfSize(log, 0);
            for (int place = 0; place < size; place++) {
                due("spread(" + place + ") at LOG " + log, spreadOf(x, place), place == 0 ? 0 : 1);
            }
        }
    }

    /** SHARES of 31 and 1: sign 1 is at place 9, so that sign 0 goes from 32 by ones, then by twos, to 62. */
    private static AnsTables thirtyOne(int... row) {
        return written(ready(counted(5, 0, 1000000, 1, 1), 2, 1, row));
    }

    private static void bitsArePutOut() {
        AnsTables x = thirtyOne(zeros(19));
        bytesAre("below 62", x, 8, 5, 0, 19, 0b01111110, 0, 62);
        x = thirtyOne(zeros(20));
        bytesAre("just 62", x, 8, 5, 0, 20, 0b01111110, 0, 32, 0);
        x = written(halves(2, 1, 0));
        bytesAre("just 32", x, 8, 5, 0, 1, 0x42, 0, 0, 32, 0);
        // Twelve bits bring 2^12 to 1, that is below 2.
        x = written(oneOfSize(12, 2, 0));
        due("twelve bits", x.told(2), 12);
        due("its state", x.state(0, 0), 4096);
    }

    private static void bitsAreTakenBack() {
        AnsTables x = thirtyOne(zeros(19));
        reads("just SIZE wants none", x, 19, 0);
        x = thirtyOne(zeros(20));
        reads("31 wants one", x, 20, 0);
        x.cut(1);
        reads("it is gone", x, -17, 1);
        due("the state before", x.state(1, 0), 32);
        x = written(oneOfSize(12, 2, 0));
        reads("1 wants twelve", x, 1, 0);
        x.cut(1);
        reads("eight of them", x, -21, 1);
        due("no sign", x.told(3), 0);
        due("the state before", x.state(1, 0), 4096);
    }

    private static void bitsAreFilledUp() {
        AnsTables two = written(halves(2, 1, 0, 1));
        bytesAre("10", two, 8, 5, 0, 2, 0x42, 0, 0, 33, 0b10000000);
        reads("10", two, 2, 0);
        AnsTables three = written(halves(2, 1, 0, 0, 1));
        bytesAre("110", three, 8, 5, 0, 3, 0x42, 0, 0, 32, 0b11000000);
        reads("110", three, 3, 0);
        due("its last sign", three.sign(2), 1);
        for (int signs = 0; signs <= 33; signs++) {
            AnsTables x = written(halves(2, 1, zeros(signs)));
            due(signs + " bits", x.told(2), 8 + (signs + 7) / 8);
            reads(signs + " bits", x, signs, 0);
        }
    }

    private static void sidesAreRounded() {
        // Of signs 0, 1 and 16 the first bit has p = 3, the last one 33 / 3.
        AnsTables x = ready(counted(5, 0, 1, 1, 2, 16, 29), 3, 1, 0);
        sharesAre("SHARES", x, 0, 1, 1, 2, 16, 29);
        x.write();
        int behindLast = 32 * (B23 / 11) + B23 % 11;
        due("sign 0", x.state(0, 0), 32 * (behindLast / 3) + behindLast % 3);
        x = written(ready(counted(5, 0, 1, 1, 2, 16, 29), 3, 1, 1));
        behindLast = 32 * (B23 / 21) + B23 % 21 + 11;
        due("sign 1", x.state(0, 0), 32 * (behindLast / 3) + behindLast % 3);
        x = written(ready(counted(5, 0, 1, 1, 2, 16, 29), 3, 1, 16));
        due("sign 16", x.state(0, 0), 32 * (B23 / 29) + B23 % 29 + 3);
        // The half of 5 is whole, so it is 34 / 5 and not 35 / 5.
        x = ready(counted(5, 0, 1, 1, 4, 16, 27), 3, 1, 0);
        sharesAre("SHARES", x, 0, 1, 1, 4, 16, 27);
        x.write();
        behindLast = 32 * (B23 / 6) + B23 % 6;
        due("34 / 5", x.state(0, 0), 32 * (behindLast / 5) + behindLast % 5);
    }

    private static void sidesAreBound() {
        for (int log : new int[] {5, 12}) {
            int size = 1 << log;
            AnsTables x = written(oneOfSize(log, 3, 0));
            due("p is 1, bit 0", x.state(0, 0), log == 5 ? (long) B23 * 32 : 1 << 27);
            x = written(oneOfSize(log, 3, 1));
            due("p is 1, bit 1", x.state(0, 0), (long) size * (B23 / (size - 1)) + B23 % (size - 1) + 1);
            x = written(ready(counted(log, 0, 1000000, 1, 1), 3, 1, 0));
            due("p is SIZE - 1, bit 0", x.state(0, 0), (long) size * (B23 / (size - 1)) + B23 % (size - 1));
            x = written(ready(counted(log, 0, 1000000, 1, 1), 3, 1, 1));
            due("p is SIZE - 1, bit 1", x.state(0, 0), (log == 5 ? (long) B23 * 32 : 1 << 27) + size - 1);
            due("agree()", x.agree(), 1);
        }
    }

    private static void oneSideIsNotWritten() {
        int[][] pairs = {{0, 1}, {30, 31}, {12, 28}, {8, 12}, {5, 7}, {0, 31}};
        for (int[] pair : pairs) {
            AnsTables x = written(ready(counted(5, pair[0], 1, pair[1], 1), 3, 1, pair[1], pair[0], pair[1]));
            due("one bit of " + pair[0] + " and " + pair[1], x.state(0, 0), 8 * B23 + 4 * 16 + 16);
            due("read()", x.read(), 3);
            due("sign(0)", x.sign(0), pair[1]);
            due("sign(1)", x.sign(1), pair[0]);
        }
    }

    private static void headOfOut() {
        for (int form = 0; form < 4; form++) {
            for (int lanes = 1; lanes <= 4; lanes *= 2) {
                for (int log = 5; log <= 12; log++) {
                    AnsTables x = written(ready(counted(log, 0, 1), form, lanes));
                    due("the first byte", x.out(0), form * 4 + (lanes == 4 ? 2 : lanes - 1));
                    due("LOG", x.out(1), log);
                }
            }
        }
        for (int signs : new int[] {0, 1, 255, 256, 1000}) {
            AnsTables x = written(halves(0, 1, zeros(signs)));
            due("the higher byte of " + signs, x.out(2), signs / 256);
            due("the lower byte of " + signs, x.out(3), signs % 256);
            due("read()", x.read(), signs);
        }
    }

    private static void statesInOut() {
        bytesAre("4 bytes", written(halves(0, 4, 1)), 2, 5, 0, 1, 0x42, 0,
            1, 0, 0, 16, 0, 0x80, 0, 0, 0, 0x80, 0, 0, 0, 0x80, 0, 0);
        bytesAre("8 bytes", written(halves(1, 2, 0, 1)), 5, 5, 0, 2, 0x42, 0,
            0, 0, 0, 1, 0, 0, 0, 0, 0, 0, 0, 1, 0, 0, 0, 16);
        bytesAre("2 bytes", written(ready(counted(12, 0, 1), 2, 2)), 9, 12, 0, 0, 0x80, 0, 16, 0, 16, 0);
        bytesAre("4 bytes of form 3", written(halves(3, 2, 0, 1)), 13, 5, 0, 2, 0x42, 0,
            1, 0, 0, 0, 1, 0, 0, 16);
    }

    private static void tableEndsWithR() {
        due("sign 0 alone", written(ready(counted(5, 0, 1), 0, 1)).told(2), 4 + 1 + 4);
        due("sign 1 alone", written(ready(counted(5, 1, 1), 0, 1)).told(2), 4 + 2 + 4);
        due("sign 31 alone", written(ready(counted(5, 31, 1), 0, 1)).told(2), 4 + 24 + 4);
        // 16 in six bits, then 31 times five.
        AnsTables x = written(ready(counted(5, 0, 1, 31, 1), 0, 1));
        due("signs 0 and 31", x.told(2), 4 + 21 + 4);
        due("the bits before", x.out(22), 0);
        due("the SHARE of 31", x.out(23), 0b00001000);
        due("its last bit", x.out(24), 0);
    }

    private static void bitsOfATable() {
        AnsTables x = written(ready(counted(5, 0, 1, 1, 1000000), 0, 1));
        bytesAre("1 of 32, 31 of 31", x, 0, 5, 0, 0, 0b00000111, 0b11100000, 0, 0x80, 0, 0);
        x = written(ready(counted(5, 0, 1000000, 1, 1), 0, 1));
        bytesAre("31 of 32, 1 of 1", x, 0, 5, 0, 0, 0b01111110, 0, 0x80, 0, 0);
        x = ready(counted(5, 0, 16, 1, 1, 2, 15), 0, 1);
        sharesAre("SHARES", x, 0, 16, 1, 1, 2, 15);
        bytesAre("16 of 32, 1 of 16, 15 of 15", written(x), 0, 5, 0, 0, 0b01000000, 0b00111110, 0, 0x80, 0, 0);
        x = written(oneOfSize(12, 0));
        bytesAre("1 of 4096, 4095 of 4095", x, 0, 12, 0, 0, 0, 0b00001111, 255, 0b10000000, 0, 0x80, 0, 0);
    }

    private static void tableIsFilledUp() {
        bytesAre("seven bits", written(ready(counted(6, 0, 1), 0, 1)), 0, 6, 0, 0, 128, 0, 0x80, 0, 0);
        bytesAre("a whole byte", written(ready(counted(7, 0, 1), 0, 1)), 0, 7, 0, 0, 128, 0, 0x80, 0, 0);
        bytesAre("nine bits", written(ready(counted(8, 0, 1), 0, 1)), 0, 8, 0, 0, 128, 0, 0, 0x80, 0, 0);
        reads("a whole byte", withOut(0, 7, 0, 0, 128, 0, 0x80, 0, 0), 0, 0);
    }

    // ---- terms: 3 READING

    private static void outEndsTooEarly() {
        reads("no OUT at all", new AnsTables(5), -10, 1);
        for (int form = 0; form < 4; form++) {
            for (int lanes = 1; lanes <= 4; lanes *= 2) {
                AnsTables x = written(halves(form, lanes, zeros(200)));
                for (int left = x.told(2) - 1; left >= 0; left--) {
                    x.cut(1);
                    reads(left + " bytes of form " + form, x, -10 - left, 1);
                }
            }
        }
    }

    private static void noFirstByteNoLog() {
        for (int b = 0; b < 256; b++) {
            boolean one = b < 16 && b % 4 != 3;
            AnsTables x = withOut(b);
            reads("the first byte " + b, x, -11, one ? 1 : 2);
            x = withOut(b, 4);
            reads("a LOG behind the first byte " + b, x, one ? -12 : -11, 2);
            x = withOut(0, b);
            reads("LOG " + b, x, -12, b >= 5 && b <= 12 ? 1 : 2);
            x = changed(EMPTY, 1, b);
            x.read();
            due("rule() of LOG " + b, x.rule() == 2 ? 1 : 0, b >= 5 && b <= 12 ? 0 : 1);
        }
    }

    private static void shareAboveR() {
        reads("32 of 32", withOut(0, 5, 0, 0, 0b10000000), -15, 1);
        reads("33 of 32", withOut(0, 5, 0, 0, 0b10000100), -15, 3);
        reads("63 of 32", withOut(0, 5, 0, 0, 0b11111100), -15, 3);
        reads("16, then 16 of 16", withOut(0, 5, 0, 0, 0b01000010, 0b00000000), -16, 1);
        reads("16, then 17 of 16", withOut(0, 5, 0, 0, 0b01000010, 0b00100000), -16, 3);
        reads("30, then 2 of 2", withOut(0, 5, 0, 0, 0b01111010), -15, 1);
        reads("30, then 3 of 2", withOut(0, 5, 0, 0, 0b01111011), -15, 3);
        reads("4096 of 4096", withOut(0, 12, 0, 0, 0x80, 0), -16, 1);
        reads("4097 of 4096", withOut(0, 12, 0, 0, 0x80, 0x08), -16, 3);
        reads("what is behind is not read", withOut(0, 5, 0, 0, 0b10000100, 0, 128, 0, 0), -15, 3);
    }

    /** A TABLE in which the first 31 signs have none. */
    private static int[] lastShare(int share) {
        int[] bytes = new int[28];
        bytes[1] = 5;
        bytes[27] = share;
        return bytes;
    }

    private static void signsAtAnEnd() {
        reads("no SHARE", withOut(lastShare(0)), -38, 3);
        reads("31 of 32", withOut(lastShare(31)), -38, 3);
        reads("32 of 32", withOut(lastShare(32)), -38, 1);
        reads("33 of 32", withOut(lastShare(33)), -38, 3);
        reads("what is behind is not read", withOut(joined(lastShare(31), 0, 128, 0, 0)), -38, 3);
        reads("32 of 32, and a state", withOut(joined(lastShare(32), 0, 128, 0, 0)), 0, 0);
    }

    private static void bitBehindATable() {
        for (int bits = 1; bits <= 3; bits++) {
            reads("bits behind", changed(EMPTY, 4, 128 + bits), -15, 3);
            reads("bits behind at the end of OUT", withOut(0, 5, 0, 0, 128 + bits), -15, 3);
        }
        reads("31, 1 and a bit", withOut(0, 5, 0, 0, 0b01111111), -15, 3);
        reads("31 and 1", withOut(0, 5, 0, 0, 0b01111110), -15, 1);
        reads("a bit in the second byte", withOut(0, 5, 0, 0, 0b01000010, 0b00000001), -16, 3);
        reads("the highest bit behind", withOut(0, 5, 0, 0, 0b01000010, 0b00010000), -16, 3);
        reads("no bit behind a whole byte", withOut(0, 7, 0, 0, 128, 255, 255, 255, 255), -19, 4);
    }

    private static void stateOutOfItsSpan() {
        for (int form = 0; form < 4; form++) {
            int width = form == 1 ? 8 : form == 2 ? 2 : 4;
            long greatest = form == 1 ? Long.MAX_VALUE : form == 2 ? 63 : B31 - 1;
            for (int lane = 0; lane < 4; lane++) {
                for (long state : new long[] {0, first(form) - 1, greatest + 1}) {
                    long[] states = {first(form), first(form), first(form), first(form)};
                    states[lane] = state;
                    reads("state " + lane + " of form " + form, withOut(outOf(form, 4, 3, states)),
                        -15 - (lane + 1) * width, 4);
                }
            }
        }
        reads("the first of two", withOut(outOf(2, 2, 0, 31, 64)), -17, 4);
        reads("at the end of OUT", withOut(Arrays.copyOf(outOf(2, 2, 0, 31, 32), 7)), -17, 4);
    }

    private static void stateNotAsAtFirst() {
        for (int form = 0; form < 4; form++) {
            for (int lane = 0; lane < 4; lane++) {
                long[] states = {first(form), first(form), first(form), first(form)};
                states[lane]++;
                int[] out = outOf(form, 4, 0, states);
                reads("state " + lane + " of form " + form, withOut(out), -10 - out.length, 5);
                reads("before bytes that are left", withOut(joined(out, 1)), -10 - out.length, 5);
            }
            AnsTables x = written(halves(form, 1, 1, 0, 1));
            x.spoil(3, 1);
            reads("a sign is left in form " + form, x, -10 - x.told(2), 5);
            due("signs read", x.told(3), 2);
        }
        AnsTables x = written(halves(2, 1, 1));
        x.spoil(8, 129);
        reads("before a bit that is left", x, -19, 5);
    }

    private static void bytesAreLeft() {
        for (int form = 0; form < 4; form++) {
            AnsTables x = written(halves(form, 2, 1, 0, 1));
            int bytes = x.told(2);
            for (int more = 1; more <= 5; more++) {
                x.octet(0);
                reads(more + " bytes behind form " + form, x, -10 - bytes, 6);
                due("signs read", x.told(3), 3);
            }
            x.cut(5);
            reads("none", x, 3, 0);
        }
        reads("without signs", withOut(joined(EMPTY, 0)), -19, 6);
    }

    private static void bitIsLeft() {
        for (int bit = 0; bit < 7; bit++) {
            AnsTables x = written(halves(2, 1, 1));
            x.spoil(8, 1 << bit);
            reads("bit " + bit, x, -19, 6);
            due("signs read", x.told(3), 1);
        }
        AnsTables x = written(halves(2, 1, zeros(8)));
        reads("no bit of a whole byte", x, 8, 0);
        x.octet(0);
        reads("a byte of 0s", x, -19, 6);
    }

    private static void tableWithoutSigns() {
        for (int form = 0; form < 4; form++) {
            AnsTables x = written(halves(form, 1));
            due("its first byte in form " + form, x.out(4), 0x42);
            reads("it in form " + form, x, 0, 0);
            x.spoil(4, 0x80);
            reads("one that is none", x, -15, 3);
            x.cut(x.told(2) - 4);
            reads("none", x, -14, 1);
        }
    }

    // ---- promises 1 to 3: the row

    private static void logsOfTheirOwn() {
        for (int log = 5; log <= 12; log++) {
            AnsTables x = new AnsTables(log);
            due("told(0)", x.told(0), log);
            due("lg(SIZE)", x.lg(1 << log), (long) log << 30);
            due("lg(SIZE + 1)", x.lg((1 << log) + 1), BAD);
        }
    }

    private static void logsAsTheNearest() {
        for (int log : new int[] {4, 3, 1, 0, -1, -5, -12, MIN}) {
            AnsTables x = counted(log, 3, 1);
            x.normal();
            due("told(0) of " + log, x.told(0), 5);
            due("share(3)", x.share(3), 32);
            due("lg(33)", x.lg(33), BAD);
        }
        for (int log : new int[] {13, 14, 31, 32, 37, 64, 1 << 16, MAX}) {
            AnsTables x = counted(log, 3, 1);
            x.normal();
            due("told(0) of " + log, x.told(0), 12);
            due("share(3)", x.share(3), 4096);
            due("lg(4097)", x.lg(4097), BAD);
        }
    }

    private static void newObject() {
        AnsTables x = new AnsTables(7);
        int[] told = {7, 0, 0, 0, 0, 1, 0};
        for (int what = 0; what < told.length; what++) {
            due("told(" + what + ")", x.told(what), told[what]);
        }
        due("form(0)", x.form(0), 0);
        due("lanes(1)", x.lanes(1), 1);
        due("clear()", x.clear(), 0);
        due("normal()", x.normal(), NONE);
        due("counts()", x.counts(), 0);
        due("rule()", x.rule(), 0);
    }

    private static void addCountsUp() {
        AnsTables x = ready(counted(5, 0, 1, 7, 1, 31, 1), 0, 1);
        int[] row = {31, 0, 7, 7, 0, 31};
        for (int i = 0; i < row.length; i++) {
            due("add(" + row[i] + ")", x.add(row[i]), i + 1);
        }
        x.write();
        due("read()", x.read(), row.length);
        for (int i = 0; i < row.length; i++) {
            due("sign(" + i + ")", x.sign(i), row[i]);
        }
    }

    private static void addNoSign() {
        AnsTables x = busy();
        for (int none : NO_SIGNS) {
            refused("add(" + none + ")", x, () -> x.add(none), BAD);
        }
        due("the row", x.told(1), 6);
        due("it agrees", x.agree(), 1);
        due("its last sign", x.sign(5), 1);
        AnsTables empty = new AnsTables(5);
        refused("add(-1) to an empty row", empty, () -> empty.add(-1), BAD);
        refused("add(32) to an empty row", empty, () -> empty.add(32), BAD);
    }

    private static void addToFull() {
        AnsTables x = halves(0, 1);
        for (int n = 1; n <= 1000; n++) {
            due("add " + n, x.add(n % 3 % 2), n);
        }
        for (int again = 0; again < 3; again++) {
            refused("add to 1,000", x, () -> x.add(1), FULL);
        }
        due("agree()", x.agree(), 1);
        due("signs read", x.told(3), 1000);
        due("sign(999)", x.sign(999), 1000 % 3 % 2);
        due("clear()", x.clear(), 1000);
        due("add to none", x.add(1), 1);
    }

    private static void clearEmpties() {
        AnsTables x = busy();
        List<Long> before = shown(x);
        due("clear()", x.clear(), 6);
        before.set(3, 0L);
        holds("the row alone is empty", shown(x).equals(before));
        due("write()", x.write(), 4 + 17 + 2 * 2);
        due("read()", x.read(), 0);
    }

    private static void clearOfEmptyAndFull() {
        AnsTables x = halves(0, 1, zeros(1000));
        due("clear() of 1,000", x.clear(), 1000);
        due("clear() of none", x.clear(), 0);
        due("told(1)", x.told(1), 0);
        due("add(1)", x.add(1), 1);
        due("clear() of one", x.clear(), 1);
        due("clear() of a new one", new AnsTables(5).clear(), 0);
    }

    // ---- promises 4 to 11: COUNTS, SHARES, LG, form and LANES

    private static void countLeastAndGreatest() {
        AnsTables x = new AnsTables(5);
        for (int sign : new int[] {0, 31}) {
            due("count(" + sign + ", 1000000)", x.count(sign, 1000000), 0);
            due("count(" + sign + ", 1)", x.count(sign, 1), 1000000);
            due("count(" + sign + ", 0)", x.count(sign, 0), 1);
            due("count(" + sign + ", 999999)", x.count(sign, 999999), 0);
            due("count(" + sign + ", 0)", x.count(sign, 0), 999999);
        }
        due("normal()", x.normal(), NONE);
    }

    private static void noShares(String what, AnsTables x) {
        due(what + ": told(6)", x.told(6), 0);
        due(what + ": loss()", x.loss(), BAD);
        due(what + ": write()", x.write(), NONE);
        due(what + ": agree()", x.agree(), NONE);
        sharesAre(what, x);
        for (int i = 0; i < 1 << x.told(0); i++) {
            due(what + ": spread(" + i + ")", spreadOf(x, i), NONE);
        }
    }

    private static void countForgetsShares() {
        AnsTables x = busy();
        due("another COUNT", x.count(0, 4), 3);
        noShares("another COUNT", x);
        x.normal();
        due("SHARES again", x.told(6), 1);
        due("the same COUNT", x.count(0, 4), 4);
        noShares("the same COUNT", x);
        x.normal();
        due("0 for a sign that has none", x.count(9, 0), 0);
        noShares("0 for a sign that has none", x);
    }

    private static void countNoneSuch() {
        AnsTables x = busy();
        for (int none : NO_SIGNS) {
            refused("count(" + none + ", 1)", x, () -> x.count(none, 1), BAD);
        }
        for (int n : new int[] {-1, -2, MIN, 1000001, 1000002, MAX}) {
            refused("count(0, " + n + ")", x, () -> x.count(0, n), BAD);
            refused("count(31, " + n + ")", x, () -> x.count(31, n), BAD);
        }
        due("the COUNT of 0", x.count(0, 3), 3);
        due("the COUNT of 31", x.count(31, 2), 2);
    }

    private static void countsOfTheRow() {
        AnsTables x = counted(5, 9, 1000000, 0, 7);
        x.add(0);
        x.add(31);
        x.add(0);
        due("counts()", x.counts(), 2);
        due("the COUNT of 0", x.count(0, 0), 2);
        due("the COUNT of 9", x.count(9, 0), 0);
        due("the COUNT of 31", x.count(31, 0), 1);
        due("the row stays", x.told(1), 3);
        x = halves(0, 1, zeros(1000));
        due("counts() of 1,000", x.counts(), 1);
        due("the COUNT of 0", x.count(0, 0), 1000);
    }

    private static void countsOfNoneAndAll() {
        AnsTables x = counted(5, 9, 4);
        due("counts() of an empty row", x.counts(), 0);
        due("normal() then", x.normal(), NONE);
        for (int sign = 0; sign < 32; sign++) {
            x.add(sign);
            due("counts() of " + (sign + 1), x.counts(), sign + 1);
        }
        for (int sign = 0; sign < 32; sign++) {
            x.add(sign);
        }
        due("counts() of all, twice", x.counts(), 32);
    }

    private static void countsForgetShares() {
        AnsTables x = busy();
        x.counts();
        noShares("counts()", x);
        x.normal();
        x.counts();
        noShares("the same COUNTS", x);
        x.normal();
        x.clear();
        x.counts();
        noShares("of an empty row", x);
    }

    private static void normalOfOneAndAll() {
        AnsTables x = new AnsTables(5);
        for (int sign = 31; sign >= 0; sign--) {
            x.count(sign, 1);
            due("normal() of " + (32 - sign), x.normal(), 32 - sign);
            due("again", x.normal(), 32 - sign);
            due("told(6)", x.told(6), 1);
        }
    }

    private static void normalWithoutCounts() {
        AnsTables fresh = new AnsTables(5);
        refused("normal() of a new one", fresh, fresh::normal, NONE);
        noShares("a new one", fresh);
        AnsTables x = busy();
        x.count(0, 0);
        x.count(1, 0);
        due("normal() of one", x.normal(), 1);
        x.count(31, 0);
        due("normal() of none", x.normal(), NONE);
        noShares("none", x);
        x = busy();
        x.clear();
        x.counts();
        due("normal() behind counts()", x.normal(), NONE);
        noShares("behind counts()", x);
    }

    private static void shareOfNone() {
        AnsTables x = counted(6, 0, 3, 31, 3);
        sharesAre("before normal()", x);
        x.normal();
        sharesAre("behind normal()", x, 0, 32, 31, 32);
        x.count(5, 0);
        sharesAre("behind count()", x);
    }

    private static void shareOfNoSign() {
        AnsTables x = busy();
        AnsTables fresh = new AnsTables(12);
        for (int none : NO_SIGNS) {
            refused("share(" + none + ")", x, () -> x.share(none), BAD);
            refused("share(" + none + ") of a new one", fresh, () -> fresh.share(none), BAD);
        }
    }

    private static void lossOfASignAlone() {
        for (int log = 5; log <= 12; log++) {
            AnsTables x = counted(log, 31, 1000000);
            x.normal();
            due("loss() of a sign alone", x.loss(), 0);
            x.count(0, 1000000);
            x.normal();
            due("loss() of two like ones", x.loss(), 2000000L << 30);
        }
        AnsTables x = counted(5, 0, 1, 1, 1, 2, 1);
        x.normal();
        due("loss() of 11, 11, 10", x.loss(), 15L * (1 << 30) - 2 * x.lg(11) - x.lg(10));
    }

    private static void lossWithoutShares() {
        due("loss() of a new one", new AnsTables(5).loss(), BAD);
        AnsTables x = counted(5, 0, 1);
        due("loss() before normal()", x.loss(), BAD);
        x.normal();
        due("loss() behind it", x.loss(), 0);
        x.count(0, 1);
        due("loss() behind count()", x.loss(), BAD);
        x.normal();
        x.counts();
        due("loss() behind counts()", x.loss(), BAD);
        x.normal();
        due("loss() behind a normal() of none", x.loss(), BAD);
    }

    private static void lgOfOneAndSize() {
        for (int log = 5; log <= 12; log++) {
            AnsTables x = new AnsTables(log);
            due("lg(1)", x.lg(1), 0);
            due("lg(2)", x.lg(2), 1L << 30);
            due("lg(SIZE)", x.lg(1 << log), (long) log << 30);
            holds("lg(SIZE - 1) is below it", x.lg((1 << log) - 1) < (long) log << 30);
        }
    }

    private static void lgOutside() {
        for (int log = 5; log <= 12; log++) {
            AnsTables x = new AnsTables(log);
            for (int c : new int[] {0, -1, -2, MIN, (1 << log) + 1, 1 << log + 1, 5000, MAX}) {
                due("lg(" + c + ") at LOG " + log, x.lg(c), BAD);
            }
        }
    }

    private static void formLeastAndGreatest() {
        AnsTables x = new AnsTables(5);
        int was = 0;
        for (int form : new int[] {3, 0, 2, 1, 1, 3, 3, 2, 0, 0}) {
            due("form(" + form + ")", x.form(form), was);
            due("told(4)", x.told(4), form);
            was = form;
        }
    }

    private static void formNoneSuch() {
        AnsTables x = busy();
        for (int none : new int[] {-1, 4, 5, 7, -4, MIN, MAX}) {
            refused("form(" + none + ")", x, () -> x.form(none), BAD);
        }
        due("form(2)", x.form(2), 2);
    }

    private static void lanesOneTwoFour() {
        AnsTables x = new AnsTables(5);
        int was = 1;
        for (int n : new int[] {4, 1, 2, 2, 4, 4, 2, 1, 1}) {
            due("lanes(" + n + ")", x.lanes(n), was);
            due("told(5)", x.told(5), n);
            was = n;
        }
    }

    private static void lanesAnother() {
        AnsTables x = busy();
        for (int none : new int[] {0, 3, 5, 6, 7, 8, 16, -1, -2, -4, MIN, MAX}) {
            refused("lanes(" + none + ")", x, () -> x.lanes(none), BAD);
        }
        due("lanes(2)", x.lanes(2), 2);
    }

    // ---- promises 12, 16 and 22: writing

    private static void writeTakesThePlaceOfOut() {
        AnsTables x = halves(0, 1, 1);
        for (int i = 0; i < 300; i++) {
            x.octet(255);
        }
        due("write() over 300 bytes", x.write(), 10);
        bytesAre("it", x, 0, 5, 0, 1, 0x42, 0, 1, 0, 0, 16);
        due("write() again", x.write(), 10);
        x.form(2);
        x.clear();
        due("a shorter one", x.write(), 8);
        bytesAre("it", x, 8, 5, 0, 0, 0x42, 0, 0, 32);
    }

    private static void writeLeavesTheRow() {
        for (int form = 0; form < 4; form++) {
            AnsTables x = halves(form, 1, 1, 0, 1);
            int bytes = x.write();
            due("told(1)", x.told(1), 3);
            due("write() again", x.write(), bytes);
            due("counts()", x.counts(), 2);
            due("the COUNT of 1", x.count(1, 0), 2);
            due("clear()", x.clear(), 3);
        }
    }

    private static void writeWithoutShares() {
        AnsTables fresh = new AnsTables(5);
        refused("write() of a new one", fresh, fresh::write, NONE);
        AnsTables x = busy();
        x.count(0, 3);
        refused("write() behind count()", x, x::write, NONE);
        x.clear();
        refused("write() of an empty row", x, x::write, NONE);
        x.normal();
        due("write() of an empty row with SHARES", x.write(), 25);
    }

    private static void writeSignWithoutShare() {
        int[][] rows = {{2}, {2, 0, 1}, {0, 2, 1}, {0, 1, 2}, {31}};
        for (int form = 0; form < 4; form++) {
            for (int[] row : rows) {
                AnsTables x = halves(form, 4, row);
                refused("write() of a row with a sign that has none", x, x::write, NONE);
                due("the row stays", x.told(1), row.length);
            }
        }
        AnsTables x = halves(0, 1, joined(zeros(999), 2));
        refused("write() of 1,000 signs", x, x::write, NONE);
    }

    private static void refusedWriteLeavesOut() {
        AnsTables x = written(halves(1, 2, 1, 0));
        x.add(5);
        refused("write() with a sign that has none", x, x::write, NONE);
        due("bytes of OUT", x.told(2), 22);
        due("state(0, 0) stays", x.state(0, 0), 2 * B31 + 16);
        x.count(0, 1);
        refused("write() without SHARES", x, x::write, NONE);
        due("bytes of OUT", x.told(2), 22);
        due("they are read", x.read(), 2);
    }

    private static void spreadFirstAndLast() {
        for (int log = 5; log <= 12; log++) {
            int size = 1 << log;
            AnsTables x = ready(counted(log, 3, 1, 30, 1), 0, 1);
            due("the first place", spreadOf(x, 0), 3);
            // Half of SIZE steps on, sign 30 begins: at SIZE / 2 again, for the step is odd.
            due("the place at a half", spreadOf(x, size / 2), 30);
            due("the last place", spreadOf(x, size - 1), lastPlace(size));
            x.count(3, 0);
            x.normal();
            due("the first place of other SHARES", spreadOf(x, 0), 30);
        }
    }

    private static int lastPlace(int size) {
        int place = 0;
        for (int k = 0; k < size / 2; k++) {
            if (place == size - 1) {
                return 3;
            }
            place = (place + size / 2 + size / 8 + 3) % size;
        }
        return 30;
    }

    private static void spreadNoSuchPlace() {
        for (int log = 5; log <= 12; log++) {
            AnsTables x = ready(counted(log, 0, 1, 1, 1), 0, 1);
            AnsTables fresh = new AnsTables(log);
            for (int none : new int[] {-1, -2, MIN, 1 << log, (1 << log) + 1, 4096, 4097, MAX}) {
                refused("spread(" + none + ")", x, () -> spreadOf(x, none), THROWN);
                refused("spread(" + none + ") of a new one", fresh, () -> spreadOf(fresh, none), THROWN);
            }
        }
    }

    private static void spreadWithoutShares() {
        AnsTables x = new AnsTables(5);
        noShares("a new one", x);
        x.count(0, 1);
        noShares("before normal()", x);
        x.normal();
        due("spread(31)", spreadOf(x, 31), 0);
        x.count(0, 1);
        noShares("behind count()", x);
    }

    private static void agreeOnEdges() {
        for (int lanes = 1; lanes <= 4; lanes *= 2) {
            for (int log : new int[] {5, 12}) {
                due("rare signs", ready(counted(log, 0, 1, 1, 1000000), 0, lanes, zeros(1000)).agree(), 1);
                due("a sign alone", ready(counted(log, 31, 5), 0, lanes, 31, 31, 31, 31, 31).agree(), 1);
                AnsTables x = new AnsTables(log);
                for (int i = 0; i < 1000; i++) {
                    x.add(i % 32);
                }
                x.counts();
                due("all signs", ready(x, 0, lanes).agree(), 1);
                for (int signs = 1; signs <= 9; signs++) {
                    int[] row = zeros(signs);
                    row[signs - 1] = 1;
                    due(signs + " signs", ready(counted(log, 0, 1, 1, 1), 0, lanes, row).agree(), 1);
                }
            }
        }
    }

    private static void agreeLeavesFormThree() {
        for (int form = 0; form < 4; form++) {
            AnsTables x = halves(form, 2, 1, 0, 1);
            due("agree()", x.agree(), 1);
            bytesAre("OUT", x, 13, 5, 0, 3, 0x42, 0, 2, 0, 0, 48, 1, 0, 0, 0);
            due("the form stays", x.told(4), form);
            due("LANES stay", x.told(5), 2);
            due("the row stays", x.told(1), 3);
            due("signs read", x.told(3), 3);
            due("sign(0)", x.sign(0), 1);
            due("sign(1)", x.sign(1), 0);
            due("sign(2)", x.sign(2), 1);
            due("rule()", x.rule(), 0);
            due("state(0, 0)", x.state(0, 0), 4 * B23 + 48);
            due("state(1, 0)", x.state(1, 0), B23);
            due("state(1, 1)", x.state(1, 1), B23);
            due("state(1, 2)", x.state(1, 2), BAD);
            due("read()", x.read(), 3);
        }
    }

    private static void agreeOfAnEmptyRow() {
        AnsTables x = busy();
        due("agree()", x.agree(), 1);
        x.clear();
        due("agree() of an empty row", x.agree(), 1);
        due("no sign is read", x.told(3), 0);
        due("OUT is of form 3", x.out(0), 13);
    }

    private static void agreeRefused() {
        AnsTables fresh = new AnsTables(5);
        refused("agree() of a new one", fresh, fresh::agree, NONE);
        AnsTables x = busy();
        x.spoil(0, 64);
        x.read();
        x.add(2);
        refused("agree() with a sign that has none", x, x::agree, NONE);
        due("the rule stays", x.rule(), 2);
        x = busy();
        x.count(0, 3);
        refused("agree() without SHARES", x, x::agree, NONE);
    }

    // ---- promises 13 to 15 and 17: reading

    private static void readNoneAndMost() {
        for (int form = 0; form < 4; form++) {
            due("no sign in form " + form, withOut(outOf(form, 1, 0, first(form))).read(), 0);
            due("one sign in form " + form, withOut(outOf(form, 1, 1, first(form))).read(), 1);
            AnsTables x = withOut(outOf(form, 1, 65535, first(form)));
            due("65,535 signs in form " + form, x.read(), 65535);
            due("told(3)", x.told(3), 65535);
            due("sign(65534)", x.sign(65534), 0);
            due("sign(65535)", x.sign(65535), BAD);
        }
    }

    private static void readTellsBytes() {
        due("none", new AnsTables(5).read(), -10);
        due("one", withOut(255).read(), -11);
        // Each byte of 0s gives eight signs: 8,000 bytes end before 65,535 signs do.
        AnsTables x = withOut(0, 5, 255, 255, 0x42, 0, 0, 0x80, 0, 0);
        for (int n = 10; n < 8000; n++) {
            x.octet(0);
        }
        reads("8,000", x, -8010, 1);
        due("signs read", x.told(3), 8 * 7990);
        x.spoil(2, 255);
        x.spoil(3, 255);
        reads("10 of 8,000", x, -20, 6);
    }

    private static void whatWasReadStays() {
        AnsTables x = written(halves(0, 1, 0, 0, 0, 0, 0, 0, 0, 0, 0, 1, 1, 0, 0, 0, 0, 0));
        reads("all", x, 16, 0);
        x.cut(1);
        reads("all but a byte", x, -21, 1);
        due("signs read", x.told(3), 8);
        due("the last of them", x.sign(7), 0);
        due("no more", x.sign(8), BAD);
        x.octet(0);
        x.octet(0);
        due("a byte too many", x.read(), -22);
        due("signs read", x.told(3), 16);
        x = written(halves(0, 1, 1, 0, 1));
        x.spoil(9, 1);
        reads("another state", x, -20, 5);
        due("signs read", x.told(3), 3);
        // A word's bytes and a sign's bits are lost together.
        x = written(halves(1, 1, zeros(64)));
        x.cut(1);
        reads("three bytes of a word", x, -10 - x.told(2), 1);
        due("signs read", x.told(3), 32);
        x = written(halves(2, 1, zeros(20)));
        x.cut(1);
        reads("16 of 20 bits", x, -20, 1);
        due("signs read", x.told(3), 16);
        x = written(halves(3, 1, zeros(16)));
        x.cut(1);
        reads("two-sided", x, -21, 1);
        due("signs read", x.told(3), 8);
    }

    private static void withoutTheHeaderNone() {
        int[] whole = outOf(2, 2, 6, 32, 32);
        for (int left = 0; left < whole.length; left++) {
            AnsTables x = withOut(whole);
            due("read()", x.read(), 6);
            x.cut(whole.length - left);
            reads(left + " bytes", x, -10 - left, 1);
            due("signs read", x.told(3), 0);
            due("sign(0)", x.sign(0), BAD);
        }
        int[][] spoiled = {{0, 64}, {1, 8}, {4, 4}, {4, 1}, {6, 64}, {8, 32}};
        for (int[] each : spoiled) {
            AnsTables x = withOut(whole);
            x.read();
            x.spoil(each[0], each[1]);
            holds("it is broken", x.read() < -10);
            due("signs read", x.told(3), 0);
            due("sign(0)", x.sign(0), BAD);
        }
    }

    private static void allGoesByOut() {
        AnsTables x = ready(counted(12, 7, 3), 3, 4, 7, 7);
        for (int b : new int[] {0, 5, 0, 3, 0x42, 0, 4, 0, 0, 16}) {
            x.octet(b);
        }
        reads("LOG 5, form 0, one LANE, halves", x, 3, 0);
        due("sign(0)", x.sign(0), 1);
        due("sign(1)", x.sign(1), 0);
        due("sign(2)", x.sign(2), 0);
        due("state(1, 0)", x.state(1, 0), B23);
        due("state(1, 1)", x.state(1, 1), BAD);
        int[] own = {12, 2, 10, 3, 3, 4, 1};
        for (int what = 0; what < own.length; what++) {
            due("told(" + what + ")", x.told(what), own[what]);
        }
        due("its own SHARES stay", x.share(7), 4096);
        due("its own SPREAD stays", spreadOf(x, 4095), 7);
        AnsTables y = written(ready(counted(12, 9, 1, 30, 1), 2, 4, 9, 30, 30, 9, 9));
        AnsTables other = new AnsTables(5);
        for (int i = 0; i < y.told(2); i++) {
            other.octet(y.out(i));
        }
        reads("LOG 12, form 2, four LANES in a new one", other, 5, 0);
        due("sign(1)", other.sign(1), 30);
        due("sign(4)", other.sign(4), 9);
        due("it has no SHARES", other.told(6), 0);
        due("its LOG stays", other.told(0), 5);
        due("its SPREAD is none", spreadOf(other, 31), NONE);
        due("its lg(33)", other.lg(33), BAD);
    }

    private static void ruleOfTheLastRead() {
        AnsTables x = withOut(EMPTY);
        int[][] spoilsAndRules = {{0, 3, 2}, {1, 1, 2}, {4, 4, 3}, {5, 128, 4}, {8, 1, 5}};
        for (int[] each : spoilsAndRules) {
            x.spoil(each[0], each[1]);
            x.read();
            due("the rule of byte " + each[0], x.rule(), each[2]);
            x.spoil(each[0], each[1]);
            due("it stays till the next read()", x.rule(), each[2]);
        }
        x.octet(0);
        x.read();
        due("a byte too many", x.rule(), 6);
        x.cut(2);
        x.read();
        due("a byte too few", x.rule(), 1);
    }

    private static void noRule() {
        AnsTables x = new AnsTables(5);
        due("of a new one", x.rule(), 0);
        x = written(halves(0, 1, 1));
        due("behind write()", x.rule(), 0);
        x.cut(1);
        due("behind cut()", x.rule(), 0);
        x.read();
        due("behind a broken read()", x.rule(), 1);
        x.write();
        due("behind write()", x.rule(), 1);
        x.read();
        due("behind a read() of a whole one", x.rule(), 0);
        x.cut(x.told(2));
        x.read();
        due("behind a read() of nothing", x.rule(), 1);
        x.agree();
        due("behind agree()", x.rule(), 0);
    }

    private static void signFirstAndLast() {
        AnsTables x = written(halves(0, 1, joined(joined(new int[] {1}, zeros(998)), 1)));
        due("read()", x.read(), 1000);
        for (int i = 0; i < 1000; i++) {
            due("sign(" + i + ")", x.sign(i), i == 0 || i == 999 ? 1 : 0);
        }
        x.clear();
        x.add(0);
        x.write();
        due("sign(0) till the next read()", x.sign(0), 1);
        x.read();
        due("sign(0)", x.sign(0), 0);
    }

    private static void signNoneSuch() {
        AnsTables fresh = halves(0, 1, 1, 1);
        due("sign(0) of a new one", fresh.sign(0), BAD);
        fresh.write();
        due("sign(0) behind write()", fresh.sign(0), BAD);
        AnsTables x = busy();
        for (int none : new int[] {-1, -2, MIN, 5, 6, 255, 256, MAX}) {
            refused("sign(" + none + ")", x, () -> x.sign(none), BAD);
        }
        due("sign(4)", x.sign(4), 0);
        x.clear();
        x.write();
        x.read();
        due("sign(0) behind a read() of none", x.sign(0), BAD);
    }

    private static void statesAre(String what, AnsTables x, int of, long... states) {
        for (int lane = 0; lane < 4; lane++) {
            long want = lane < states.length ? states[lane] : BAD;
            due(what + ": state(" + of + ", " + lane + ")", x.state(of, lane), want);
        }
    }

    private static void stateBehindWrite() {
        AnsTables x = written(halves(0, 2, 1, 0, 0));
        statesAre("two LANES", x, 0, 4 * B23 + 16, 2 * B23);
        x.lanes(4);
        x.form(2);
        statesAre("LANES are others now", x, 0, 4 * B23 + 16, 2 * B23);
        x.add(9);
        due("a write() that is not done", x.write(), NONE);
        statesAre("the last one that was done", x, 0, 4 * B23 + 16, 2 * B23);
        x.cut(x.told(2));
        x.read();
        statesAre("OUT is gone", x, 0, 4 * B23 + 16, 2 * B23);
        x.clear();
        x.write();
        statesAre("four LANES", x, 0, 32, 32, 32, 32);
        x.lanes(1);
        x.form(1);
        x.write();
        statesAre("one LANE", x, 0, B31);
    }

    private static void stateBehindRead() {
        // Each LANE wants a byte for its first sign.
        AnsTables x = written(halves(0, 2, zeros(16)));
        x.read();
        statesAre("all", x, 1, B23, B23);
        x.cut(1);
        x.read();
        due("one sign", x.told(3), 1);
        statesAre("sign 1 is not whole", x, 1, 1 << 30, B23);
        x.cut(1);
        x.read();
        statesAre("sign 0 is not whole", x, 1, B23, B23);
        x = written(halves(1, 1, zeros(33)));
        x.cut(2);
        x.read();
        due("one sign", x.told(3), 1);
        statesAre("half a word", x, 1, B31);
        // The second sign wants twelve bits, and has four of the first one's bytes.
        x = written(oneOfSize(12, 2, 0, 0));
        x.cut(1);
        reads("16 of 24 bits", x, -22, 1);
        due("one sign", x.told(3), 1);
        statesAre("four of twelve bits", x, 1, 4096);
        x = withOut(joined(outOf(0, 1, 9, B23), 7));
        x.read();
        statesAre("a broken rule behind all signs", x, 1, B23);
        lastBitOfFormThree();
    }

    private static void lastBitOfFormThree() {
        // SHARES 8, 8, 16: of sign 4 the last two bits are written, of 6 the last but one alone.
        AnsTables x = ready(counted(5, 4, 1, 5, 1, 6, 2), 3, 1, 4, 4, 4, 4, 6);
        sharesAre("SHARES", x, 4, 8, 5, 8, 6, 16);
        x.write();
        statesAre("write()", x, 0, 2 * B23 + 4);
        x.cut(1);
        reads("the byte of the second bit", x, -10 - x.told(2), 1);
        due("no sign", x.told(3), 0);
        statesAre("one bit", x, 1, B23 + 4);
    }

    private static void stateNoneSuch() {
        AnsTables x = busy();
        for (int lane : new int[] {-1, -2, MIN, 2, 3, 4, 5, MAX}) {
            due("state(0, " + lane + ")", x.state(0, lane), BAD);
            due("state(1, " + lane + ")", x.state(1, lane), BAD);
        }
        for (int what : new int[] {-1, -2, MIN, 2, 3, MAX}) {
            due("state(" + what + ", 0)", x.state(what, 0), BAD);
        }
        holds("state(0, 1)", x.state(0, 1) >= 32);
        due("state(1, 1)", x.state(1, 1), 32);
    }

    private static void stateOfNeither() {
        AnsTables x = halves(0, 4, 1, 0, 1);
        statesAre("a new one", x, 0);
        statesAre("a new one", x, 1);
        x.write();
        statesAre("behind write()", x, 1);
        AnsTables y = withOut(EMPTY);
        y.read();
        statesAre("behind read()", y, 1, B23);
        statesAre("behind read()", y, 0);
        AnsTables z = new AnsTables(5);
        z.write();
        statesAre("behind a write() that was not done", z, 0);
        z.agree();
        statesAre("behind an agree() that was not done", z, 0);
        statesAre("behind an agree() that was not done", z, 1);
    }

    private static void stateOfPoorRead() {
        int[] whole = outOf(2, 4, 6, 32, 32, 32, 32);
        for (int left = 0; left < whole.length; left++) {
            AnsTables x = withOut(whole);
            x.read();
            statesAre("all are read", x, 1, 32, 32, 32, 32);
            x.cut(whole.length - left);
            x.read();
            statesAre(left + " bytes are there", x, 1);
        }
        int[][] spoiled = {{0, 64}, {1, 8}, {4, 4}, {4, 1}, {6, 64}, {8, 32}, {10, 255}, {12, 32}};
        for (int[] each : spoiled) {
            AnsTables x = withOut(whole);
            x.read();
            x.spoil(each[0], each[1]);
            x.read();
            statesAre("byte " + each[0] + " is spoiled", x, 1);
            x.spoil(each[0], each[1]);
            x.read();
            statesAre("and mended", x, 1, 32, 32, 32, 32);
        }
    }

    // ---- promises 18 to 21 and 23: OUT, and what is told

    private static void outFirstAndLast() {
        AnsTables x = new AnsTables(5);
        for (int i = 0; i < 8000; i++) {
            x.octet(i * 7);
        }
        for (int i : new int[] {0, 1, 255, 256, 257, 4095, 7998, 7999}) {
            due("out(" + i + ")", x.out(i), i * 7 & 255);
        }
    }

    private static void outNoneSuch() {
        AnsTables fresh = new AnsTables(5);
        refused("out(0) of none", fresh, () -> fresh.out(0), BAD);
        AnsTables x = withOut(9, 8, 7);
        for (int none : new int[] {-1, -2, MIN, 3, 4, 255, 256, MAX}) {
            refused("out(" + none + ")", x, () -> x.out(none), BAD);
        }
        x.cut(1);
        due("out(2) when it is gone", x.out(2), BAD);
        due("out(1)", x.out(1), 8);
    }

    private static void spoilFirstAndLast() {
        AnsTables x = withOut(0, 1, 255);
        due("spoil(0, 255)", x.spoil(0, 255), 255);
        due("spoil(0, 1)", x.spoil(0, 1), 254);
        due("spoil(2, 255)", x.spoil(2, 255), 0);
        due("spoil(2, 128)", x.spoil(2, 128), 128);
        bytesAre("OUT", x, 254, 1, 128);
    }

    private static void spoilNoSuchPlace() {
        AnsTables fresh = new AnsTables(5);
        refused("spoil(0, 1) of none", fresh, () -> fresh.spoil(0, 1), BAD);
        AnsTables x = withOut(9, 8, 7);
        for (int none : new int[] {-1, -2, MIN, 3, 4, 255, 256, MAX}) {
            refused("spoil(" + none + ", 1)", x, () -> x.spoil(none, 1), BAD);
        }
        x.cut(1);
        due("spoil(2, 1) when it is gone", x.spoil(2, 1), BAD);
        due("octet(7)", x.octet(7), 3);
        bytesAre("OUT", x, 9, 8, 7);
    }

    private static void spoilMask() {
        AnsTables x = withOut(9, 8, 7);
        for (int mask : new int[] {0, -1, -255, MIN, 256, 257, 511, MAX}) {
            refused("spoil(0, " + mask + ")", x, () -> x.spoil(0, mask), BAD);
            refused("spoil(3, " + mask + ")", x, () -> x.spoil(3, mask), BAD);
        }
        for (int mask = 1; mask <= 255; mask++) {
            due("spoil(1, " + mask + ")", x.spoil(1, mask), 8 ^ mask);
            due("again", x.spoil(1, mask), 8);
        }
    }

    private static void cutNoneAndAll() {
        AnsTables x = withOut(9, 8, 7, 6);
        due("cut(0)", x.cut(0), 4);
        bytesAre("OUT", x, 9, 8, 7, 6);
        due("cut(1)", x.cut(1), 3);
        bytesAre("OUT", x, 9, 8, 7);
        due("cut(3)", x.cut(3), 0);
        bytesAre("OUT", x);
        due("cut(0) of none", x.cut(0), 0);
        due("octet(5)", x.octet(5), 1);
        bytesAre("OUT", x, 5);
    }

    private static void cutTooMany() {
        AnsTables x = withOut(9, 8, 7);
        for (int n : new int[] {4, 5, 256, 8000, MAX}) {
            refused("cut(" + n + ")", x, () -> x.cut(n), BAD);
        }
        AnsTables fresh = new AnsTables(5);
        refused("cut(1) of none", fresh, () -> fresh.cut(1), BAD);
    }

    private static void cutBelowZero() {
        AnsTables x = withOut(9, 8, 7);
        AnsTables fresh = new AnsTables(5);
        for (int n : new int[] {-1, -2, -3, -4, MIN, MIN + 1}) {
            refused("cut(" + n + ")", x, () -> x.cut(n), BAD);
            refused("cut(" + n + ") of none", fresh, () -> fresh.cut(n), BAD);
        }
    }

    private static void octetLowestBits() {
        int[][] bytes = {{0, 0}, {255, 255}, {256, 0}, {257, 1}, {-1, 255}, {-256, 0}, {0x12345, 0x45}, {MIN, 0},
            {MAX, 255}};
        AnsTables x = new AnsTables(5);
        for (int i = 0; i < bytes.length; i++) {
            due("octet(" + bytes[i][0] + ")", x.octet(bytes[i][0]), i + 1);
            due("out(" + i + ")", x.out(i), bytes[i][1]);
        }
        AnsTables y = written(halves(0, 1));
        due("octet(3) behind a written OUT", y.octet(3), 11);
        due("out(10)", y.out(10), 3);
    }

    private static void octetToFull() {
        AnsTables x = new AnsTables(5);
        for (int n = 1; n <= 8000; n++) {
            due("octet " + n, x.octet(n), n);
        }
        for (int b : new int[] {0, 1, -1, 255}) {
            refused("octet(" + b + ") to 8,000", x, () -> x.octet(b), FULL);
        }
        due("cut(1)", x.cut(1), 7999);
        due("octet(9)", x.octet(9), 8000);
        due("out(7999)", x.out(7999), 9);
        due("octet(9) to 8,000", x.octet(9), FULL);
    }

    private static void toldOfAll() {
        AnsTables x = busy();
        int[] all = {5, 6, x.told(2), 5, 2, 2, 1};
        for (int what = 0; what < all.length; what++) {
            due("told(" + what + ")", x.told(what), all[what]);
        }
        due("told(2)", x.told(2), x.cut(0));
        x.count(0, 3);
        due("told(6) when SHARES are none", x.told(6), 0);
        x.cut(x.told(2));
        due("told(2) when OUT is none", x.told(2), 0);
        x.read();
        due("told(3) when none was read", x.told(3), 0);
        x.clear();
        due("told(1) of an empty row", x.told(1), 0);
    }

    private static void toldAnother() {
        AnsTables x = busy();
        for (int none : new int[] {-1, -2, MIN, 7, 8, 255, MAX}) {
            refused("told(" + none + ")", x, () -> x.told(none), BAD);
        }
    }
}
