import java.math.BigInteger;
import java.util.ArrayList;
import java.util.Arrays;
import java.util.Collections;
import java.util.List;

/**
 * Runs of calls that a fixed row of numbers draws, each answer held against a slow model that
 * follows the document's words with great numbers, lists and texts of bits.
 */
public final class ModelTest {
    private static final int RUNS = 300;
    private static int wrong = 0;
    private static int calls = 0;
    private static final int[][] rulesSeen = new int[4][7];

    private ModelTest() {
    }

    public static void main(String[] args) {
        for (int run = 0; run < RUNS; run++) {
            new Run(run).go();
        }
        for (int form = 0; form < 4; form++) {
            for (int rule = 0; rule <= 6; rule++) {
                if (rulesSeen[form][rule] == 0) {
                    wrong++;
                    System.out.println("no run read form " + form + " with rule " + rule);
                }
            }
        }
        System.out.println(calls + " calls held against the model, " + wrong + " answers are not as due");
        if (wrong != 0) {
            System.exit(1);
        }
    }

    /** One object and its model, and the numbers that draw the calls. */
    private static final class Run {
        private final int run;
        private final int log;
        private final AnsTables tables;
        private final Model model;
        private final StringBuilder told = new StringBuilder();
        private long seed;
        private int left = 512;

        Run(int run) {
            this.run = run;
            seed = 0x9E3779B97F4A7C15L * (run + 1);
            log = 3 + draw(12);
            tables = new AnsTables(log);
            model = new Model(log);
        }

        private int draw(int below) {
            seed = seed * 6364136223846793005L + 1442695040888963407L;
            return (int) ((seed >>> 33) % below);
        }

        private void due(String call, long got, long want) {
            calls++;
            left--;
            if (got != want && wrong < 40) {
                System.out.println("run " + run + " log " + log + told + ": " + call + " answered " + got
                    + ", due is " + want);
            }
            if (got != want) {
                wrong++;
                left = 0;
            }
            if (told.length() < 4000) {
                told.append(' ').append(call);
            }
        }

        void go() {
            int signs = 1 + draw(draw(2) == 0 ? 4 : 32);
            while (left > 60) {
                step(signs);
            }
            look();
        }

        private int someSign(int signs) {
            int sign = draw(signs) * 7 + run & 31;
            return draw(60) == 0 ? draw(40) - 4 : sign;
        }

        private void step(int signs) {
            switch (draw(16)) {
                case 0:
                    for (int i = draw(30); i > 0 && left > 60; i--) {
                        int sign = someSign(signs);
                        due("add(" + sign + ")", tables.add(sign), model.add(sign));
                    }
                    break;
                case 1:
                    if (draw(6) == 0) {
                        due("clear()", tables.clear(), model.clear());
                    }
                    break;
                case 2: {
                    int sign = someSign(signs);
                    int n = draw(3) == 0 ? draw(1000004) - 2 : draw(20);
                    due("count(" + sign + ", " + n + ")", tables.count(sign, n), model.count(sign, n));
                    break;
                }
                case 3:
                    due("counts()", tables.counts(), model.counts());
                    due("normal()", tables.normal(), model.normal());
                    break;
                case 4:
                    due("normal()", tables.normal(), model.normal());
                    due("loss()", tables.loss(), model.loss());
                    break;
                case 5: {
                    int kind = draw(20) == 0 ? draw(8) - 2 : draw(4);
                    due("form(" + kind + ")", tables.form(kind), model.form(kind));
                    break;
                }
                case 6: {
                    int n = draw(20) == 0 ? draw(10) - 2 : 1 << draw(3);
                    due("lanes(" + n + ")", tables.lanes(n), model.lanes(n));
                    break;
                }
                case 7:
                    due("agree()", tables.agree(), model.agree());
                    break;
                case 8: {
                    int c = draw((1 << log) + 6) - 2;
                    due("lg(" + c + ")", tables.lg(c), model.lg(c));
                    break;
                }
                case 9: {
                    int i = draw(model.size + 4) - 2;
                    due("spread(" + i + ")", spreadOf(i), model.spread(i));
                    break;
                }
                case 10:
                    made();
                    break;
                default:
                    write();
                    harm();
                    read();
                    break;
            }
        }

        private long spreadOf(int i) {
            try {
                return tables.spread(i);
            } catch (ArrayIndexOutOfBoundsException e) {
                return Model.THROWN;
            }
        }

        private void write() {
            due("write()", tables.write(), model.write());
        }

        private void read() {
            due("read()", tables.read(), model.read());
            due("rule()", tables.rule(), model.rule);
            due("told(3)", tables.told(3), model.got.size());
            for (int lane = 0; lane < 4; lane++) {
                due("state(1, " + lane + ")", tables.state(1, lane), model.state(1, lane));
            }
            if (!model.out.isEmpty() && model.out.get(0) < 16) {
                rulesSeen[model.out.get(0) >> 2][model.rule]++;
            }
        }

        /** A TABLE, LOG and head drawn by hand, so that faults in them are seen more often. */
        private void made() {
            int n = model.out.size();
            due("cut(" + n + ")", tables.cut(n), model.cut(n));
            int length = draw(30);
            for (int i = 0; i < length && left > 60; i++) {
                int b = draw(3) == 0 ? draw(512) - 128 : draw(16);
                due("octet(" + b + ")", tables.octet(b), model.octet(b));
            }
            read();
        }

        private void harm() {
            int times = draw(4) - 1;
            for (int k = 0; k < times && left > 60; k++) {
                switch (draw(4)) {
                    case 0: {
                        int n = draw(8) == 0 ? draw(30) - 2 : draw(4);
                        due("cut(" + n + ")", tables.cut(n), model.cut(n));
                        break;
                    }
                    case 1: {
                        int b = draw(2) == 0 ? 0 : draw(600) - 100;
                        due("octet(" + b + ")", tables.octet(b), model.octet(b));
                        break;
                    }
                    default: {
                        int i = draw(Math.max(1, model.out.size())) - draw(30) / 29;
                        int mask = draw(20) == 0 ? draw(400) - 50 : 1 << draw(8);
                        due("spoil(" + i + ", " + mask + ")", tables.spoil(i, mask), model.spoil(i, mask));
                        break;
                    }
                }
            }
        }

        private void look() {
            for (int what = -1; what < 8; what++) {
                due("told(" + what + ")", tables.told(what), model.told(what));
            }
            for (int i = -1; i <= model.out.size(); i++) {
                due("out(" + i + ")", tables.out(i), model.out(i));
            }
            for (int i = -1; i <= model.got.size(); i++) {
                due("sign(" + i + ")", tables.sign(i), model.sign(i));
            }
            for (int sign = -1; sign <= 32; sign++) {
                due("share(" + sign + ")", tables.share(sign), model.share(sign));
            }
            for (int lane = -1; lane < 5; lane++) {
                for (int what = -1; what < 3; what++) {
                    due("state(" + what + ", " + lane + ")", tables.state(what, lane), model.state(what, lane));
                }
            }
        }
    }

    /** A RULE that the model's reading saw broken. */
    private static final class Broken extends RuntimeException {
        private static final long serialVersionUID = 1L;
        private final int rule;

        Broken(int rule) {
            this.rule = rule;
        }
    }

    private static final class Model {
        static final long THROWN = -77;
        private static final BigInteger TWO = BigInteger.TWO;
        private static final long[] KNOWN = new long[4097];
        final int log;
        final int size;
        int[] counts = new int[32];
        int[] shares;
        final List<Integer> row = new ArrayList<>();
        final List<Integer> out = new ArrayList<>();
        final List<Integer> got = new ArrayList<>();
        int form;
        int lanes = 1;
        int rule;
        BigInteger[] written;
        BigInteger[] seen;
        private int pos;
        private String bits;

        Model(int log) {
            this.log = log < 5 ? 5 : log > 12 ? 12 : log;
            size = (int) Math.pow(2, this.log);
        }

        int add(int sign) {
            if (sign < 0 || sign > 31) {
                return -1;
            }
            if (row.size() == 1000) {
                return -3;
            }
            row.add(sign);
            return row.size();
        }

        int clear() {
            int had = row.size();
            row.clear();
            return had;
        }

        int count(int sign, int n) {
            if (sign < 0 || sign > 31 || n < 0 || n > 1000000) {
                return -1;
            }
            int was = counts[sign];
            counts[sign] = n;
            shares = null;
            return was;
        }

        int counts() {
            shares = null;
            int some = 0;
            for (int s = 0; s < 32; s++) {
                counts[s] = Collections.frequency(row, s);
                some += Math.min(1, counts[s]);
            }
            return some;
        }

        int normal() {
            shares = null;
            int[] made = new int[32];
            int some = 0;
            for (int s = 0; s < 32; s++) {
                made[s] = counts[s] > 0 ? 1 : 0;
                some += made[s];
            }
            if (some == 0) {
                return -2;
            }
            long[] gains = new long[32];
            for (int s = 0; s < 32; s++) {
                gains[s] = made[s] == 0 ? -1 : counts[s] * (lg(2) - lg(1));
            }
            for (int all = some; all < size; all++) {
                int best = 31;
                for (int s = 31; s >= 0; s--) {
                    best = gains[s] >= gains[best] ? s : best;
                }
                made[best]++;
                gains[best] = made[best] == size ? 0 : counts[best] * (lg(made[best] + 1) - lg(made[best]));
            }
            shares = made;
            return some;
        }

        int share(int sign) {
            return sign < 0 || sign > 31 ? -1 : shares == null ? 0 : shares[sign];
        }

        long loss() {
            if (shares == null) {
                return -1;
            }
            BigInteger sum = BigInteger.ZERO;
            for (int s = 0; s < 32; s++) {
                if (counts[s] > 0) {
                    BigInteger bitsOf = TWO.pow(30).multiply(BigInteger.valueOf(log)).subtract(BigInteger.valueOf(lg(shares[s])));
                    sum = sum.add(bitsOf.multiply(BigInteger.valueOf(counts[s])));
                }
            }
            return sum.longValueExact();
        }

        long lg(int c) {
            if (c < 1 || c > size) {
                return -1;
            }
            if (KNOWN[c] == 0) {
                KNOWN[c] = reckonLg(c);
            }
            return KNOWN[c];
        }

        private static long reckonLg(int c) {
            int whole = Integer.toBinaryString(c).length() - 1;
            BigInteger x = BigInteger.valueOf(c).multiply(TWO.pow(30 - whole));
            StringBuilder behind = new StringBuilder();
            for (int k = 0; k < 30; k++) {
                x = x.multiply(x).divide(TWO.pow(30));
                if (x.compareTo(TWO.pow(31)) >= 0) {
                    behind.append('1');
                    x = x.divide(TWO);
                } else {
                    behind.append('0');
                }
            }
            return whole * 1073741824L + Long.parseLong(behind.toString(), 2);
        }

        int form(int kind) {
            if (kind < 0 || kind > 3) {
                return -1;
            }
            int was = form;
            form = kind;
            return was;
        }

        int lanes(int n) {
            if (!Arrays.asList(1, 2, 4).contains(n)) {
                return -1;
            }
            int was = lanes;
            lanes = n;
            return was;
        }

        long spread(int i) {
            if (i < 0 || i >= size) {
                return THROWN;
            }
            return shares == null ? -2 : spreadOf(shares, size)[i];
        }

        private static int[] spreadOf(int[] shares, int size) {
            int[] at = new int[size];
            int j = 0;
            for (int s = 0; s < 32; s++) {
                for (int k = 0; k < shares[s]; k++) {
                    at[(int) ((long) j * (size / 2 + size / 8 + 3) % size)] = s;
                    j++;
                }
            }
            return at;
        }

        private static BigInteger first(int form, int size) {
            return form == 2 ? BigInteger.valueOf(size) : TWO.pow(form == 1 ? 31 : 23);
        }

        private static BigInteger end(int form, int size) {
            return form == 2 ? BigInteger.valueOf(2L * size) : TWO.pow(form == 1 ? 63 : 31);
        }

        private static int from(int[] shares, int sign) {
            int sum = 0;
            for (int s = 0; s < sign; s++) {
                sum += shares[s];
            }
            return sum;
        }

        private boolean writable() {
            return shares != null && row.stream().allMatch(s -> shares[s] > 0);
        }

        int write() {
            return writable() ? writeAs(form) : -2;
        }

        private int writeAs(int kind) {
            written = new BigInteger[lanes];
            Arrays.fill(written, first(kind, size));
            List<String> put = new ArrayList<>();
            for (int i = row.size() - 1; i >= 0; i--) {
                int s = row.get(i);
                if (kind == 2) {
                    writeByTable(i % lanes, s, put);
                } else if (kind == 3) {
                    writeBits(i % lanes, s, put);
                } else {
                    push(kind, i % lanes, shares[s], from(shares, s), put);
                }
            }
            Collections.reverse(put);
            StringBuilder text = new StringBuilder();
            text.append(binary(kind * 4 + (lanes == 4 ? 2 : lanes - 1), 8)).append(binary(log, 8));
            text.append(binary(row.size(), 16)).append(padded(tableBits()));
            for (BigInteger state : written) {
                text.append(binary(state, kind == 1 ? 64 : kind == 2 ? 16 : 32));
            }
            text.append(padded(String.join("", put)));
            out.clear();
            for (int i = 0; i < text.length(); i += 8) {
                out.add(Integer.parseInt(text.substring(i, i + 8), 2));
            }
            return out.size();
        }

        private String tableBits() {
            StringBuilder text = new StringBuilder();
            int r = size;
            for (int s = 0; s < 32 && r > 0; s++) {
                text.append(binary(shares[s], Integer.toBinaryString(r).length()));
                r -= shares[s];
            }
            return text.toString();
        }

        private static String padded(String text) {
            return text + "0".repeat((8 - text.length() % 8) % 8);
        }

        private static String binary(long value, int width) {
            return binary(BigInteger.valueOf(value), width);
        }

        private static String binary(BigInteger value, int width) {
            String text = value.toString(2);
            return "0".repeat(width - text.length()) + text;
        }

        private void push(int kind, int lane, int f, int from, List<String> put) {
            BigInteger bound = end(kind, size).divide(BigInteger.valueOf(size)).multiply(BigInteger.valueOf(f));
            int width = kind == 1 ? 32 : 8;
            BigInteger x = written[lane];
            while (x.compareTo(bound) >= 0) {
                put.add(binary(x.mod(TWO.pow(width)), width));
                x = x.shiftRight(width);
            }
            BigInteger[] parts = x.divideAndRemainder(BigInteger.valueOf(f));
            written[lane] = parts[0].multiply(BigInteger.valueOf(size)).add(parts[1]).add(BigInteger.valueOf(from));
        }

        private void writeByTable(int lane, int s, List<String> put) {
            int x = written[lane].intValueExact();
            while (x >= 2 * shares[s]) {
                put.add(String.valueOf(x % 2));
                x /= 2;
            }
            int[] at = spreadOf(shares, size);
            int number = shares[s];
            for (int p = 0; p < size; p++) {
                if (at[p] == s && number++ == x) {
                    written[lane] = BigInteger.valueOf(size + p);
                }
            }
        }

        private static int[] sides(int[] shares, String before) {
            int[] side = new int[2];
            for (int s = 0; s < 32; s++) {
                String bitsOf = binary(s, 5);
                if (bitsOf.startsWith(before)) {
                    side[bitsOf.charAt(before.length()) - '0'] += shares[s];
                }
            }
            return side;
        }

        private static int zeros(int[] side, int size) {
            int all = side[0] + side[1];
            return Math.min(size - 1, Math.max(1, (side[0] * size + all / 2) / all));
        }

        private void writeBits(int lane, int s, List<String> put) {
            String bitsOf = binary(s, 5);
            for (int k = 4; k >= 0; k--) {
                int[] side = sides(shares, bitsOf.substring(0, k));
                if (side[0] > 0 && side[1] > 0) {
                    int p = zeros(side, size);
                    boolean zero = bitsOf.charAt(k) == '0';
                    push(3, lane, zero ? p : size - p, zero ? 0 : p, put);
                }
            }
        }

        int read() {
            got.clear();
            rule = 0;
            seen = null;
            pos = 0;
            bits = "";
            try {
                readAll();
                return got.size();
            } catch (Broken e) {
                rule = e.rule;
                return -10 - pos;
            }
        }

        private int nextByte() {
            if (pos == out.size()) {
                throw new Broken(1);
            }
            return out.get(pos++);
        }

        private int nextBit() {
            if (bits.isEmpty()) {
                bits = binary(nextByte(), 8);
            }
            int bit = bits.charAt(0) - '0';
            bits = bits.substring(1);
            return bit;
        }

        private void readAll() {
            int head = nextByte();
            if (head > 15 || head % 4 == 3) {
                throw new Broken(2);
            }
            int hisLog = nextByte();
            if (hisLog < 5 || hisLog > 12) {
                throw new Broken(2);
            }
            int hisSize = 1 << hisLog;
            int n = nextByte() * 256;
            n += nextByte();
            int[] table = readTable(hisSize);
            int kind = head / 4;
            BigInteger[] states = new BigInteger[head % 4 == 2 ? 4 : head % 4 + 1];
            for (int lane = 0; lane < states.length; lane++) {
                BigInteger x = BigInteger.ZERO;
                for (int k = 0; k < (kind == 1 ? 8 : kind == 2 ? 2 : 4); k++) {
                    x = x.multiply(BigInteger.valueOf(256)).add(BigInteger.valueOf(nextByte()));
                }
                if (x.compareTo(first(kind, hisSize)) < 0 || x.compareTo(end(kind, hisSize)) >= 0) {
                    throw new Broken(4);
                }
                states[lane] = x;
            }
            seen = states;
            int[] at = spreadOf(table, hisSize);
            for (int i = 0; i < n; i++) {
                got.add(readSign(kind, i % states.length, table, hisSize, at));
            }
            for (BigInteger x : states) {
                if (!x.equals(first(kind, hisSize))) {
                    throw new Broken(5);
                }
            }
            if (pos < out.size() || bits.contains("1")) {
                throw new Broken(6);
            }
        }

        private int[] readTable(int hisSize) {
            int[] table = new int[32];
            int r = hisSize;
            for (int s = 0; s < 32 && r > 0; s++) {
                for (int k = Integer.toBinaryString(r).length(); k > 0; k--) {
                    table[s] = 2 * table[s] + nextBit();
                }
                if (table[s] > r) {
                    throw new Broken(3);
                }
                r -= table[s];
            }
            if (r > 0 || bits.contains("1")) {
                throw new Broken(3);
            }
            bits = "";
            return table;
        }

        private int readSign(int kind, int lane, int[] table, int hisSize, int[] at) {
            if (kind == 2) {
                return readByTable(lane, table, hisSize, at);
            }
            if (kind == 3) {
                return readBits(lane, table, hisSize);
            }
            int r = seen[lane].mod(BigInteger.valueOf(hisSize)).intValue();
            int sign = 0;
            while (r < from(table, sign) || r >= from(table, sign) + table[sign]) {
                sign++;
            }
            pull(kind, lane, table[sign], from(table, sign), hisSize);
            return sign;
        }

        private void pull(int kind, int lane, int f, int from, int hisSize) {
            BigInteger[] parts = seen[lane].divideAndRemainder(BigInteger.valueOf(hisSize));
            BigInteger x = parts[0].multiply(BigInteger.valueOf(f)).add(parts[1]).subtract(BigInteger.valueOf(from));
            while (x.compareTo(first(kind, hisSize)) < 0) {
                for (int k = 0; k < (kind == 1 ? 4 : 1); k++) {
                    x = x.shiftLeft(8).or(BigInteger.valueOf(nextByte()));
                }
            }
            seen[lane] = x;
        }

        private int readByTable(int lane, int[] table, int hisSize, int[] at) {
            int p = seen[lane].intValue() - hisSize;
            int number = table[at[p]];
            for (int q = 0; q < p; q++) {
                number += at[q] == at[p] ? 1 : 0;
            }
            while (number < hisSize) {
                number = 2 * number + nextBit();
            }
            seen[lane] = BigInteger.valueOf(number);
            return at[p];
        }

        private int readBits(int lane, int[] table, int hisSize) {
            String before = "";
            for (int k = 0; k < 5; k++) {
                int[] side = sides(table, before);
                if (side[0] == 0 || side[1] == 0) {
                    before += side[0] == 0 ? "1" : "0";
                    continue;
                }
                int p = zeros(side, hisSize);
                boolean zero = seen[lane].mod(BigInteger.valueOf(hisSize)).intValue() < p;
                pull(3, lane, zero ? p : hisSize - p, zero ? 0 : p, hisSize);
                before += zero ? "0" : "1";
            }
            return Integer.parseInt(before, 2);
        }

        int sign(int i) {
            return i < 0 || i >= got.size() ? -1 : got.get(i);
        }

        long state(int what, int lane) {
            BigInteger[] states = what == 0 ? written : what == 1 ? seen : null;
            return states == null || lane < 0 || lane >= states.length ? -1 : states[lane].longValueExact();
        }

        int out(int i) {
            return i < 0 || i >= out.size() ? -1 : out.get(i);
        }

        int spoil(int i, int mask) {
            if (i < 0 || i >= out.size() || mask < 1 || mask > 255) {
                return -1;
            }
            out.set(i, out.get(i) ^ mask);
            return out.get(i);
        }

        int cut(int n) {
            if (n < 0 || n > out.size()) {
                return -1;
            }
            out.subList(out.size() - n, out.size()).clear();
            return out.size();
        }

        int octet(int b) {
            if (out.size() == 8000) {
                return -3;
            }
            out.add(Math.floorMod(b, 256));
            return out.size();
        }

        int agree() {
            if (!writable()) {
                return -2;
            }
            int all = 1;
            for (int kind = 0; kind < 4; kind++) {
                writeAs(kind);
                all &= read() == row.size() && got.equals(row) ? 1 : 0;
            }
            return all;
        }

        int told(int what) {
            int[] all = {log, row.size(), out.size(), got.size(), form, lanes, shares == null ? 0 : 1};
            return what < 0 || what >= all.length ? -1 : all[what];
        }
    }
}
