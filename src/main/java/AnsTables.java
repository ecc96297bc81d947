import java.util.Arrays;

/** Rows of signs written into states, the last sign first, and read from the first on. */
public final class AnsTables {
    public static final int BAD = -1, NONE = -2, FULL = -3;

    private static final int SIGNS = 32;
    private static final int LEAST_LOG = 5;
    private static final int GREATEST_LOG = 12;
    private static final int ROW_LIMIT = 1000;
    private static final int COUNT_LIMIT = 1000000;
    private static final int OUT_LIMIT = 8000;
    private static final int READ_LIMIT = 65535;
    private static final int SHORT_ROW = 256;
    private static final int MOST_LANES = 4;

    private static final int BYTES = 0;
    private static final int WORDS = 1;
    private static final int TABLE = 2;
    private static final int TWO_SIDED = 3;

    private static final int ENDS_EARLY = 1;
    private static final int NO_HEAD = 2;
    private static final int NO_TABLE = 3;
    private static final int OUT_OF_SPAN = 4;
    private static final int NOT_AS_AT_FIRST = 5;
    private static final int LEFT_OVER = 6;

    private final Logs logs;
    private final Shares shares;
    private final Writer writer;
    private final Reader reader;
    private final Octets octets;
    private final int[] tally;
    private int[] row;
    private int rowLength;
    private int kind;
    private int laneCount;

    public AnsTables(int log) {
        int near = Math.min(Math.max(log, LEAST_LOG), GREATEST_LOG);
        logs = new Logs(1 << near);
        shares = new Shares(near);
        writer = new Writer();
        reader = new Reader();
        octets = new Octets();
        tally = new int[SIGNS];
        row = new int[SHORT_ROW];
        kind = BYTES;
        laneCount = 1;
    }

    public int add(int sign) {
        if (!isSign(sign)) {
            return BAD;
        }
        row = withRoom(row, rowLength, ROW_LIMIT);
        if (rowLength >= row.length) {
            return FULL;
        }
        row[rowLength] = sign;
        rowLength++;
        return rowLength;
    }

    public int clear() {
        int had = rowLength;
        rowLength = 0;
        return had;
    }

    public int count(int sign, int n) {
        if (!isSign(sign) || n < 0 || n > COUNT_LIMIT) {
            return BAD;
        }
        int was = tally[sign];
        tally[sign] = n;
        shares.forget();
        return was;
    }

    public int counts() {
        Arrays.fill(tally, 0);
        for (int i = 0; i < rowLength && i < row.length; i++) {
            if (isSign(row[i])) {
                tally[row[i]]++;
            }
        }
        shares.forget();
        int some = 0;
        for (int sign = 0; sign < SIGNS; sign++) {
            some += tally[sign] > 0 ? 1 : 0;
        }
        return some;
    }

    public int normal() {
        // SHARES that stand were made of these very COUNTS: a new COUNT forgets them.
        if (!shares.made) {
            shares.makeOf(tally, logs);
        }
        return shares.made ? shares.howMany() : NONE;
    }

    public int share(int sign) {
        return isSign(sign) ? shares.shareOf(sign) : BAD;
    }

    public long loss() {
        if (!shares.made) {
            return BAD;
        }
        long sum = 0;
        for (int sign = 0; sign < SIGNS; sign++) {
            if (tally[sign] > 0) {
                sum += tally[sign] * (logs.of(shares.size) - logs.of(shares.shareOf(sign)));
            }
        }
        return sum;
    }

    public long lg(int c) {
        return logs.of(c);
    }

    public int form(int kind) {
        if (kind < BYTES || kind > TWO_SIDED) {
            return BAD;
        }
        int was = this.kind;
        this.kind = kind;
        return was;
    }

    public int lanes(int n) {
        if (n != 1 && n != 2 && n != MOST_LANES) {
            return BAD;
        }
        int was = laneCount;
        laneCount = n;
        return was;
    }

    public int write() {
        if (!isWritable()) {
            return NONE;
        }
        writer.writeRow(row, rowLength, shares, kind, laneCount, octets);
        return octets.length;
    }

    public int read() {
        return reader.takeIn(octets);
    }

    public int rule() {
        return reader.broken;
    }

    public int sign(int i) {
        return reader.signAt(i);
    }

    public int spread(int i) throws ArrayIndexOutOfBoundsException {
        if (i < 0 || i >= shares.size) {
            throw new ArrayIndexOutOfBoundsException("no such place");
        }
        if (!shares.made) {
            return NONE;
        }
        shares.makeSpread();
        return shares.signAt(i);
    }

    public long state(int what, int lane) {
        if (lane < 0) {
            return BAD;
        }
        if (what == 0) {
            return writer.done && lane < writer.laneCount ? writer.states[lane] : BAD;
        }
        if (what == 1) {
            return reader.hasStates && lane < reader.laneCount ? reader.states[lane] : BAD;
        }
        return BAD;
    }

    public int out(int i) {
        return octets.valueAt(i);
    }

    public int spoil(int i, int mask) {
        if (mask < 1 || mask > 255) {
            return BAD;
        }
        return octets.change(i, mask);
    }

    public int cut(int n) {
        if (n < 0 || n > octets.length) {
            return BAD;
        }
        octets.length -= n;
        return octets.length;
    }

    public int octet(int b) {
        return octets.append(b) ? octets.length : FULL;
    }

    public int agree() {
        if (!isWritable()) {
            return NONE;
        }
        int all = 1;
        for (int each = BYTES; each <= TWO_SIDED; each++) {
            writer.writeRow(row, rowLength, shares, each, laneCount, octets);
            int got = reader.takeIn(octets);
            if (got != rowLength || !readIsRow()) {
                all = 0;
            }
        }
        return all;
    }

    public int told(int what) {
        switch (what) {
            case 0: return shares.log;
            case 1: return rowLength;
            case 2: return octets.length;
            case 3: return reader.length;
            case 4: return kind;
            case 5: return laneCount;
            case 6: return shares.made ? 1 : 0;
            default: return BAD;
        }
    }

    private boolean isWritable() {
        if (!shares.made) {
            return false;
        }
        for (int i = 0; i < rowLength && i < row.length; i++) {
            if (shares.shareOf(row[i]) == 0) {
                return false;
            }
        }
        return true;
    }

    private boolean readIsRow() {
        for (int i = 0; i < rowLength && i < row.length; i++) {
            if (reader.signAt(i) != row[i]) {
                return false;
            }
        }
        return true;
    }

    private static boolean isSign(int sign) {
        return sign >= 0 && sign < SIGNS;
    }

    /** Most objects hold little: rows begin short, and are doubled when they are full. */
    private static int[] withRoom(int[] values, int length, int limit) {
        if (length < values.length || length >= limit) {
            return values;
        }
        return Arrays.copyOf(values, Math.min(2 * length, limit));
    }

    private static int bitLength(int number) {
        int bits = 0;
        for (int k = 0; k < 31; k++) {
            if (number >> k > 0) {
                bits = k + 1;
            }
        }
        return bits;
    }

    private static long firstState(int form, int size) {
        if (form == TABLE) {
            return size;
        }
        return form == WORDS ? 1L << 31 : 1L << 23;
    }

    private static long lastState(int form, int size) {
        if (form == TABLE) {
            return 2L * size - 1;
        }
        return form == WORDS ? (1L << 63) - 1 : (1L << 31) - 1;
    }

    private static int stateWidth(int form) {
        if (form == TABLE) {
            return 2;
        }
        return form == WORDS ? 8 : 4;
    }

    /** LG of 1 .. SIZE, each reckoned once: normal() asks for thousands of them. */
    private static final class Logs {
        private static final long UNKNOWN = -1;
        private final long[] known;

        Logs(int size) {
            known = new long[size + 1];
            Arrays.fill(known, UNKNOWN);
        }

        long of(int c) {
            if (c < 1 || c >= known.length) {
                return BAD;
            }
            if (known[c] == UNKNOWN) {
                known[c] = reckon(c);
            }
            return known[c];
        }

        private static long reckon(int c) {
            int whole = bitLength(c) - 1;
            long x = (long) c << (30 - whole);
            long lg = whole;
            for (int k = 0; k < 30; k++) {
                x = x * x >> 30;
                int bit = (int) (x >> 31);
                lg = 2 * lg + bit;
                x >>= bit;
            }
            return lg;
        }
    }

    /** The SHARES of signs, made of COUNTS or taken from a TABLE, and their SPREAD. */
    private static final class Shares {
        private int log;
        private int size;
        private boolean made;
        private final int[] share = new int[SIGNS];
        private final int[] from = new int[SIGNS + 1];
        private final long[] gain = new long[SIGNS];
        private final int[] seen = new int[SIGNS];
        private boolean isSpread;
        private int[] signs = new int[0];
        private int[] numbers = new int[0];
        private int[] places = new int[0];

        Shares(int log) {
            this.log = log;
            size = 1 << log;
        }

        void forget() {
            Arrays.fill(share, 0);
            made = false;
            isSpread = false;
        }

        void beginWith(int log) {
            forget();
            this.log = log;
            size = 1 << log;
        }

        void give(int sign, int number) {
            if (isSign(sign)) {
                share[sign] = number;
            }
        }

        void finish() {
            int sum = 0;
            for (int sign = 0; sign < SIGNS; sign++) {
                from[sign] = sum;
                sum += share[sign];
            }
            from[SIGNS] = sum;
            made = sum == size;
        }

        int shareOf(int sign) {
            return isSign(sign) ? share[sign] : 0;
        }

        int fromOf(int sign) {
            return isSign(sign) ? from[sign] : 0;
        }

        int howMany() {
            int some = 0;
            for (int sign = 0; sign < SIGNS; sign++) {
                some += share[sign] > 0 ? 1 : 0;
            }
            return some;
        }

        void makeOf(int[] tally, Logs logs) {
            forget();
            int sum = 0;
            for (int sign = 0; sign < SIGNS && sign < tally.length; sign++) {
                share[sign] = tally[sign] > 0 ? 1 : 0;
                gain[sign] = gainOf(sign, tally[sign], logs);
                sum += share[sign];
            }
            if (sum == 0) {
                return;
            }
            for (int given = sum; given < size; given++) {
                int best = greatestGain();
                share[best]++;
                gain[best] = gainOf(best, best < tally.length ? tally[best] : 0, logs);
            }
            finish();
        }

        private long gainOf(int sign, int times, Logs logs) {
            // The sign that has all of SIZE wants no more, and LG ends there.
            if (times <= 0 || share[sign] >= size) {
                return 0;
            }
            return times * (logs.of(share[sign] + 1) - logs.of(share[sign]));
        }

        private int greatestGain() {
            int best = 0;
            for (int sign = 1; sign < SIGNS; sign++) {
                if (gain[sign] > gain[best]) {
                    best = sign;
                }
            }
            return best;
        }

        /** The sign with FROM at most r and below FROM and its SHARE. */
        int signOver(int r) {
            int sign = 0;
            for (int step = SIGNS / 2; step > 0; step /= 2) {
                // Signs without a SHARE have the FROM of the next one: the last one that fits is it.
                if (from[sign + step] <= r) {
                    sign += step;
                }
            }
            return sign;
        }

        /**
         * The share of bit 0 behind the bits of a beginning: half is how many signs each bit leaves.
         * SIZE or 0 where all are on one side, so that the sure bit is like a sign alone.
         */
        int shareOfZero(int beginning, int half) {
            if (beginning < 0 || half < 1 || half > SIGNS / 2 || beginning > SIGNS - 2 * half) {
                return size;
            }
            int all = from[beginning + 2 * half] - from[beginning];
            int zero = from[beginning + half] - from[beginning];
            if (all <= 0 || zero == all) {
                return size;
            }
            if (zero == 0) {
                return 0;
            }
            int p = (zero * size + all / 2) / all;
            return Math.min(Math.max(p, 1), size - 1);
        }

        void makeSpread() {
            if (isSpread) {
                return;
            }
            // Forms but the table never ask for SPREAD, and OUT may tell a greater LOG than before.
            if (signs.length < size) {
                signs = new int[size];
                numbers = new int[size];
                places = new int[size];
            }
            int step = size / 2 + size / 8 + 3;
            int place = 0;
            for (int sign = 0; sign < SIGNS; sign++) {
                for (int k = 0; k < share[sign] && k < size; k++) {
                    signs[place] = sign;
                    place = (place + step) & (size - 1);
                }
            }
            numberPlaces();
            isSpread = true;
        }

        private void numberPlaces() {
            Arrays.fill(seen, 0);
            for (int place = 0; place < size && place < signs.length; place++) {
                int sign = signs[place];
                int slot = from[sign] + seen[sign];
                numbers[place] = share[sign] + seen[sign];
                if (slot < places.length) {
                    places[slot] = place;
                }
                seen[sign]++;
            }
        }

        int signAt(int place) {
            return place >= 0 && place < size && place < signs.length ? signs[place] : BAD;
        }

        int numberAt(int place) {
            return place >= 0 && place < size && place < numbers.length ? numbers[place] : BAD;
        }

        /** The place of a sign that has this number there. */
        int placeOf(int sign, int number) {
            int slot = fromOf(sign) + number - shareOf(sign);
            return slot >= 0 && slot < size && slot < places.length ? places[slot] : 0;
        }
    }

    /** The bytes of OUT. */
    private static final class Octets {
        private int[] values = new int[SHORT_ROW];
        private int length;
        private int spareBits;

        void restart() {
            length = 0;
            spareBits = 0;
        }

        boolean append(int value) {
            values = withRoom(values, length, OUT_LIMIT);
            if (length >= values.length) {
                return false;
            }
            values[length] = value & 255;
            length++;
            return true;
        }

        int valueAt(int i) {
            return i >= 0 && i < length && i < values.length ? values[i] : BAD;
        }

        int change(int i, int mask) {
            if (i < 0 || i >= length || i >= values.length) {
                return BAD;
            }
            values[i] ^= mask;
            return values[i];
        }

        void appendNumber(long value, int width) {
            for (int k = width - 1; k >= 0; k--) {
                append((int) (value >>> (8 * k)));
            }
        }

        /** A TABLE is the only thing of bits in OUT, so what it leaves of its last byte stays 0. */
        void appendBits(int value, int width) {
            for (int k = width - 1; k >= 0; k--) {
                if (spareBits == 0) {
                    append(0);
                    spareBits = 8;
                }
                spareBits--;
                if (length > 0) {
                    values[length - 1] |= (value >> k & 1) << spareBits;
                }
            }
        }
    }

    /**
     * What a writing puts out, the lowest bit of a byte first, so that going back from the top
     * gives the bits in the order of reading.
     */
    private static final class Pile {
        /** Form 3 puts out the most: two bytes for each of five bits. */
        private static final int MOST_OF_A_SIGN = 10;
        private int[] values = new int[SHORT_ROW];
        private int bits;

        void empty() {
            bits = 0;
        }

        void makeRoomForSign() {
            values = withRoom(values, bits / 8 + MOST_OF_A_SIGN, OUT_LIMIT);
        }

        void pushOctet(int value) {
            int top = bits / 8;
            if (top < values.length) {
                values[top] = value & 255;
                bits += 8;
            }
        }

        void pushBit(int bit) {
            int top = bits / 8;
            if (top < values.length) {
                // A new byte may hold what an earlier writing left there.
                int before = bits % 8 == 0 ? 0 : values[top];
                values[top] = before | (bit & 1) << bits % 8;
                bits++;
            }
        }

        void pourInto(Octets out) {
            int whole = (bits + 7) / 8;
            int inTop = bits - 8 * (whole - 1);
            for (int i = whole - 1; i >= 0; i--) {
                int below = i > 0 ? values[i - 1] : 0;
                out.append(values[i] << (8 - inTop) | below >> inTop);
            }
        }
    }

    /** Writes rows, and keeps the states that the last writing ended with. */
    private static final class Writer {
        private final long[] states = new long[MOST_LANES];
        private final Pile pile = new Pile();
        private int laneCount;
        private boolean done;

        void writeRow(int[] row, int length, Shares shares, int form, int lanes, Octets out) {
            laneCount = Math.min(lanes, MOST_LANES);
            pile.empty();
            Arrays.fill(states, firstState(form, shares.size));
            if (form == TABLE) {
                shares.makeSpread();
            }
            for (int i = Math.min(length, row.length) - 1; i >= 0; i--) {
                pile.makeRoomForSign();
                putSign(form, i & (laneCount - 1), row[i], shares);
            }
            out.restart();
            putHead(form, length, shares, out);
            putTable(shares, out);
            for (int lane = 0; lane < laneCount; lane++) {
                out.appendNumber(states[lane], stateWidth(form));
            }
            pile.pourInto(out);
            done = true;
        }

        private void putHead(int form, int length, Shares shares, Octets out) {
            out.append(form * 4 + laneCount / 2);
            out.append(shares.log);
            out.appendNumber(length, 2);
        }

        private void putTable(Shares shares, Octets out) {
            int left = shares.size;
            for (int sign = 0; sign < SIGNS && left > 0; sign++) {
                out.appendBits(shares.shareOf(sign), bitLength(left));
                left -= shares.shareOf(sign);
            }
        }

        private void putSign(int form, int lane, int sign, Shares shares) {
            switch (form) {
                case TABLE:
                    putByTable(lane, sign, shares);
                    break;
                case TWO_SIDED:
                    putTwoSided(lane, sign, shares);
                    break;
                default:
                    widen(lane, shares.shareOf(sign), shares.fromOf(sign), shares.log, form);
                    break;
            }
        }

        private void widen(int lane, int share, int from, int log, int form) {
            // A share of SIZE would change nothing, and its bound of 2^63 is no long.
            if (share <= 0 || share >= 1 << log) {
                return;
            }
            int width = form == WORDS ? 4 : 1;
            long bound = (1L << (form == WORDS ? 63 : 31) - log) * share;
            long state = states[lane];
            // Two bytes, or one word, bring any state below the least bound.
            for (int k = 0; k < 2 && state >= bound; k++) {
                for (int b = 0; b < width; b++) {
                    pile.pushOctet((int) state);
                    state >>= 8;
                }
            }
            states[lane] = (state / share << log) + state % share + from;
        }

        private void putByTable(int lane, int sign, Shares shares) {
            int number = (int) states[lane];
            int share = shares.shareOf(sign);
            for (int k = 0; k <= GREATEST_LOG && number >= 2 * share; k++) {
                pile.pushBit(number);
                number /= 2;
            }
            states[lane] = shares.size + shares.placeOf(sign, number);
        }

        private void putTwoSided(int lane, int sign, Shares shares) {
            for (int half = 1; half < SIGNS; half *= 2) {
                int zero = shares.shareOfZero(sign & -2 * half, half);
                if ((sign & half) == 0) {
                    widen(lane, zero, 0, shares.log, TWO_SIDED);
                } else {
                    widen(lane, shares.size - zero, zero, shares.log, TWO_SIDED);
                }
            }
        }
    }

    /** Reads OUT by what OUT tells, and keeps what it read and the RULE that it saw broken. */
    private static final class Reader {
        private final Shares shares = new Shares(LEAST_LOG);
        private final long[] states = new long[MOST_LANES];
        private int[] signs = new int[SHORT_ROW];
        private int length;
        private int broken;
        private int bytesRead;
        private int lastByte;
        private int bitsLeft;
        private int form;
        private int laneCount;
        private int due;
        private boolean hasStates;

        int takeIn(Octets out) {
            length = 0;
            broken = 0;
            bytesRead = 0;
            bitsLeft = 0;
            hasStates = false;
            takeHead(out);
            if (broken == 0) {
                takeTable(out);
            }
            if (broken == 0) {
                takeStates(out);
            }
            if (broken == 0) {
                takeRow(out);
            }
            if (broken == 0) {
                judgeEnd(out);
            }
            return broken == 0 ? length : -10 - bytesRead;
        }

        int signAt(int i) {
            return i >= 0 && i < length && i < signs.length ? signs[i] : BAD;
        }

        private void takeHead(Octets out) {
            int first = (int) nextNumber(out, 1);
            if (broken == 0 && (first >> 2 > TWO_SIDED || (first & 3) == 3)) {
                broken = NO_HEAD;
            }
            if (broken != 0) {
                return;
            }
            int log = (int) nextNumber(out, 1);
            if (broken == 0 && (log < LEAST_LOG || log > GREATEST_LOG)) {
                broken = NO_HEAD;
            }
            if (broken != 0) {
                return;
            }
            form = first >> 2;
            laneCount = 1 << (first & 3);
            shares.beginWith(log);
            due = (int) nextNumber(out, 2);
        }

        private void takeTable(Octets out) {
            int left = shares.size;
            for (int sign = 0; sign < SIGNS && left > 0; sign++) {
                int share = nextBits(out, bitLength(left));
                if (broken != 0) {
                    return;
                }
                shares.give(sign, share);
                left -= share;
            }
            if (left != 0 || restIsSet()) {
                broken = NO_TABLE;
                return;
            }
            bitsLeft = 0;
            shares.finish();
        }

        private void takeStates(Octets out) {
            long least = firstState(form, shares.size);
            long greatest = lastState(form, shares.size);
            for (int lane = 0; lane < laneCount && lane < MOST_LANES; lane++) {
                // Eight bytes with the highest bit set are below 0 here, so below the span too.
                states[lane] = nextNumber(out, stateWidth(form));
                if (broken == 0 && (states[lane] < least || states[lane] > greatest)) {
                    broken = OUT_OF_SPAN;
                }
                if (broken != 0) {
                    return;
                }
            }
            hasStates = true;
        }

        private void takeRow(Octets out) {
            if (form == TABLE) {
                shares.makeSpread();
            }
            for (int i = 0; i < due && i < READ_LIMIT; i++) {
                int sign = takeSign(i & (laneCount - 1), out);
                if (broken != 0) {
                    return;
                }
                keep(sign);
            }
        }

        private void keep(int sign) {
            // The head may tell more signs than a row can have, and a sign alone needs no bytes.
            signs = withRoom(signs, length, READ_LIMIT);
            if (length < signs.length) {
                signs[length] = sign;
                length++;
            }
        }

        private int takeSign(int lane, Octets out) {
            if (form == TABLE) {
                return takeByTable(lane, out);
            }
            if (form == TWO_SIDED) {
                return takeTwoSided(lane, out);
            }
            int sign = shares.signOver(restOf(lane));
            narrow(lane, shares.shareOf(sign), shares.fromOf(sign), out);
            return sign;
        }

        private int restOf(int lane) {
            return (int) states[lane] & (shares.size - 1);
        }

        /** Leaves the state as it was when OUT ends within the step. */
        private void narrow(int lane, int share, int from, Octets out) {
            long least = firstState(form, shares.size);
            int width = form == WORDS ? 4 : 1;
            long state = share * (states[lane] >> shares.log) + restOf(lane) - from;
            // Two bytes, or one word, bring any such state into its span again.
            for (int k = 0; k < 2 && state < least; k++) {
                long next = nextNumber(out, width);
                if (broken != 0) {
                    return;
                }
                state = (state << 8 * width) + next;
            }
            states[lane] = state;
        }

        private int takeByTable(int lane, Octets out) {
            int place = (int) states[lane] - shares.size;
            int number = shares.numberAt(place);
            for (int k = 0; k <= GREATEST_LOG && number < shares.size; k++) {
                int bit = nextBits(out, 1);
                if (broken != 0) {
                    return BAD;
                }
                number = 2 * number + bit;
            }
            states[lane] = number;
            return shares.signAt(place);
        }

        private int takeTwoSided(int lane, Octets out) {
            int sign = 0;
            for (int half = SIGNS / 2; half > 0; half /= 2) {
                int zero = shares.shareOfZero(sign, half);
                if (restOf(lane) < zero) {
                    narrow(lane, zero, 0, out);
                } else {
                    narrow(lane, shares.size - zero, zero, out);
                    sign += half;
                }
                if (broken != 0) {
                    return BAD;
                }
            }
            return sign;
        }

        private void judgeEnd(Octets out) {
            long first = firstState(form, shares.size);
            for (int lane = 0; lane < laneCount && lane < MOST_LANES; lane++) {
                if (states[lane] != first) {
                    broken = NOT_AS_AT_FIRST;
                    return;
                }
            }
            if (bytesRead < out.length || restIsSet()) {
                broken = LEFT_OVER;
            }
        }

        private long nextNumber(Octets out, int width) {
            long number = 0;
            for (int k = 0; k < width; k++) {
                if (bytesRead >= out.length || bytesRead >= out.values.length) {
                    broken = ENDS_EARLY;
                    return BAD;
                }
                number = number << 8 | out.values[bytesRead];
                bytesRead++;
            }
            return number;
        }

        private int nextBits(Octets out, int width) {
            int number = 0;
            for (int k = 0; k < width; k++) {
                if (bitsLeft == 0) {
                    lastByte = (int) nextNumber(out, 1);
                    if (broken != 0) {
                        return BAD;
                    }
                    bitsLeft = 8;
                }
                bitsLeft--;
                number = 2 * number + (lastByte >> bitsLeft & 1);
            }
            return number;
        }

        private boolean restIsSet() {
            return (lastByte & (1 << bitsLeft) - 1) != 0;
        }
    }
}
