import java.util.Arrays;

/**
 * Two stations that distil a key: they sift what they recorded, give up samples, mend differences in a dialogue of
 * letters that may be lost, doubled or late, and shorten what is left.
 */
public final class KeyDistiller {
    public static final int NONE = -1;

    private static final int PULSES = 128;
    private static final int MOST_AT_ONCE = 32;
    private static final int LEAST_SIZE = 4;
    private static final int PASSES = 4;
    private static final int MOST_LETTERS = 16;
    private static final int WORD_BITS = 16;
    private static final int GREATEST_WORD = 65535;
    private static final int GREATEST_MARGIN = 128;

    private static final int QUESTION = 0;
    private static final int ANSWER = 1;

    private static final int COMES = 0;
    private static final int IS_LOST = 1;
    private static final int IS_DOUBLED = 2;

    private final Station zero;
    private final Station one;
    private final Drawing drawing;
    private final Dialogue dialogue;
    private final int[] shuffled;
    private final int[] givenUp;
    private final int[] keyDraws;
    private int length;
    private int givenUpInAll;
    private int differedInAll;
    private int keyLength;

    public KeyDistiller() {
        zero = new Station();
        one = new Station();
        drawing = new Drawing();
        dialogue = new Dialogue(zero, one);
        shuffled = new int[PULSES];
        givenUp = new int[PULSES];
        keyDraws = new int[2 * PULSES];
        length = NONE;
    }

    public int record(int station, int from, int n, int bases, int values, int seen)
            throws IllegalArgumentException, IllegalStateException {
        if (!isStation(station) || n < 1 || n > MOST_AT_ONCE || from < 0 || from > PULSES - n) {
            throw new IllegalArgumentException("no such station or pulses");
        }
        Station recorder = stationOf(station);
        if (isSifted() || recorder.hasAnyOf(from, n)) {
            throw new IllegalStateException("recorded or sifted already");
        }
        recorder.note(from, n, bases, values, seen);
        return recorder.notedInAll;
    }

    public int sift() throws IllegalStateException {
        if (isSifted()) {
            throw new IllegalStateException("sifted already");
        }
        int kept = 0;
        for (int pulse = 0; pulse < PULSES; pulse++) {
            if (isKept(pulse)) {
                zero.string[kept] = zero.values[pulse];
                one.string[kept] = one.values[pulse];
                kept++;
            }
        }
        length = kept;
        return length;
    }

    public int length() {
        return length;
    }

    public int sample(long seed, int n) throws IllegalStateException, IllegalArgumentException {
        if (!isSifted() || dialogue.isBegun()) {
            throw new IllegalStateException("not between sifting and the start");
        }
        if (n < 0 || n > length) {
            throw new IllegalArgumentException("no such sample");
        }
        drawing.shuffle(seed, length, shuffled);
        Arrays.fill(givenUp, 0);
        int differed = 0;
        for (int i = 0; i < n; i++) {
            int position = shuffled[i];
            givenUp[position] = 1;
            differed += zero.string[position] ^ one.string[position];
        }
        zero.leaveOut(givenUp, length);
        one.leaveOut(givenUp, length);
        length -= n;
        givenUpInAll += n;
        differedInAll += differed;
        return differed;
    }

    public int sampled(int what) {
        switch (what) {
            case 0:
                return givenUpInAll;
            case 1:
                return differedInAll;
            default:
                return NONE;
        }
    }

    public int start(int k, long seed) throws IllegalStateException, IllegalArgumentException {
        if (!isSifted() || dialogue.isBegun()) {
            throw new IllegalStateException("not sifted, or begun already");
        }
        if (k < LEAST_SIZE || k > length) {
            throw new IllegalArgumentException("no such size");
        }
        for (int p = 0; p < PASSES; p++) {
            drawing.shuffle(seed + p, length, dialogue.orders[p]);
        }
        dialogue.begin(k, length);
        return dialogue.letters.count;
    }

    public int letter(int k, int action)
            throws IllegalArgumentException, IndexOutOfBoundsException, IllegalStateException {
        if (action < COMES || action > IS_DOUBLED) {
            throw new IllegalArgumentException("no such action");
        }
        Letters letters = dialogue.letters;
        if (!letters.has(k)) {
            throw new IndexOutOfBoundsException("no such letter");
        }
        if (action == IS_DOUBLED && letters.count == MOST_LETTERS) {
            throw new IllegalStateException("too many letters");
        }
        if (action == COMES) {
            dialogue.deliver(k);
        } else if (action == IS_LOST) {
            letters.takeOut(k);
        } else {
            letters.send(letters.kinds[k], letters.numbers[k], letters.parities[k]);
        }
        return letters.count;
    }

    public int told(int k, int what) {
        return dialogue.letters.has(k) ? dialogue.tell(k, what) : NONE;
    }

    public int tick() throws IllegalStateException {
        if (!dialogue.isBegun()) {
            throw new IllegalStateException("not begun");
        }
        dialogue.askAgain();
        return dialogue.letters.count;
    }

    public boolean done() {
        return dialogue.isOver();
    }

    public int pass() {
        return dialogue.current;
    }

    public int disclosed() {
        return dialogue.disclosures;
    }

    public int answered(int i) {
        // A question is asked only behind the answer to the one before, so they are answered in their order.
        return i >= 0 && i < dialogue.disclosures ? dialogue.questions[i] : NONE;
    }

    public int bit(int station, int i) throws IllegalStateException, IndexOutOfBoundsException {
        if (!isSifted()) {
            throw new IllegalStateException("not sifted");
        }
        if (!isStation(station) || i < 0 || i >= length) {
            throw new IndexOutOfBoundsException("no such station or bit");
        }
        return stationOf(station).string[i];
    }

    public int item(int pass, int i) throws IllegalStateException, IndexOutOfBoundsException {
        if (!dialogue.isBegun()) {
            throw new IllegalStateException("not begun");
        }
        if (pass < 0 || pass >= PASSES || i < 0 || i >= length) {
            throw new IndexOutOfBoundsException("no such pass or item");
        }
        return dialogue.orders[pass][i];
    }

    public int tag(int station, int r) throws IllegalStateException, IllegalArgumentException {
        if (!isSifted()) {
            throw new IllegalStateException("not sifted");
        }
        if (!isStation(station) || !isTagNumber(r)) {
            throw new IllegalArgumentException("no such station or number");
        }
        return stationOf(station).tagWith(r, length);
    }

    public int shorten(long seed, int r, int margin)
            throws IllegalStateException, IllegalArgumentException, UnsupportedOperationException {
        if (!dialogue.isOver()) {
            throw new IllegalStateException("the dialogue is not done");
        }
        if (!isTagNumber(r) || margin < 0 || margin > GREATEST_MARGIN) {
            throw new IllegalArgumentException("no such number or margin");
        }
        int left = length - dialogue.disclosures - margin - WORD_BITS;
        if (left < 1 || zero.tagWith(r, length) != one.tagWith(r, length)) {
            throw new UnsupportedOperationException("the tags differ, or no bits are left");
        }
        drawing.restart(seed);
        for (int i = 0; i < length + left - 1; i++) {
            keyDraws[i] = drawing.drawBit();
        }
        keyLength = left;
        return keyLength;
    }

    public int key(int station, int i) throws IndexOutOfBoundsException {
        if (!isStation(station) || i < 0 || i >= keyLength) {
            throw new IndexOutOfBoundsException("no such station or bit");
        }
        // The strings stay as they are once the dialogue is done, so a key's bit can wait until it is asked for.
        int[] string = stationOf(station).string;
        int sum = 0;
        for (int at = 0; at < length; at++) {
            sum ^= string[at] & keyDraws[at + keyLength - 1 - i];
        }
        return sum;
    }

    private boolean isSifted() {
        return length != NONE;
    }

    private static boolean isStation(int station) {
        return station == 0 || station == 1;
    }

    private Station stationOf(int station) {
        return station == 0 ? zero : one;
    }

    private static boolean isTagNumber(int r) {
        return r >= 1 && r <= GREATEST_WORD;
    }

    private boolean isKept(int pulse) {
        return zero.noted[pulse] && one.noted[pulse] && one.seen[pulse] == 1 && zero.bases[pulse] == one.bases[pulse];
    }

    /** What one station recorded, and its string. */
    private static final class Station {
        private static final int REDUCER = 0x1002B;

        private final boolean[] noted = new boolean[PULSES];
        private final int[] bases = new int[PULSES];
        private final int[] values = new int[PULSES];
        private final int[] seen = new int[PULSES];
        private final int[] string = new int[PULSES];
        private int notedInAll;

        private boolean hasAnyOf(int from, int n) {
            for (int k = 0; k < n; k++) {
                if (noted[from + k]) {
                    return true;
                }
            }
            return false;
        }

        private void note(int from, int n, int basisBits, int valueBits, int seenBits) {
            for (int k = 0; k < n; k++) {
                noted[from + k] = true;
                bases[from + k] = basisBits >>> k & 1;
                values[from + k] = valueBits >>> k & 1;
                seen[from + k] = seenBits >>> k & 1;
            }
            notedInAll += n;
        }

        private void leaveOut(int[] out, int n) {
            int kept = 0;
            for (int i = 0; i < n; i++) {
                if (out[i] == 0) {
                    string[kept] = string[i];
                    kept++;
                }
            }
        }

        private int parity(int[] order, int from, int to) {
            int sum = 0;
            for (int place = from; place < to; place++) {
                sum ^= string[order[place]];
            }
            return sum;
        }

        private int tagWith(int r, int n) {
            int sum = 0;
            for (int from = 0; from < n; from += WORD_BITS) {
                sum = product(r, sum ^ word(from, Math.min(from + WORD_BITS, n)));
            }
            return product(r, sum ^ n);
        }

        private int word(int from, int to) {
            int bits = 0;
            for (int i = from; i < to; i++) {
                bits |= string[i] << (i - from);
            }
            return bits;
        }

        private static int product(int a, int b) {
            int sum = 0;
            int shifted = a;
            for (int k = 0; k < WORD_BITS; k++) {
                if ((b >>> k & 1) == 1) {
                    sum ^= shifted;
                }
                shifted <<= 1;
                if (shifted > GREATEST_WORD) {
                    shifted ^= REDUCER;
                }
            }
            return sum;
        }
    }

    /** Numbers and bits drawn with a seed. */
    private static final class Drawing {
        private static final long FACTOR = 6364136223846793005L;
        private static final long SUMMAND = 1442695040888963407L;
        private static final long RANGE = 1L << 31;
        private static final int MOST_TRIES = 1000000;

        private long state;

        private void restart(long seed) {
            state = seed;
        }

        private void advance() {
            state = state * FACTOR + SUMMAND;
        }

        private int drawBit() {
            advance();
            return (int) (state >>> 63);
        }

        private int drawBelow(int k) {
            if (k < 2) {
                return 0;
            }
            long limit = RANGE / k * k;
            for (int tries = 0; tries < MOST_TRIES; tries++) {
                advance();
                long rest = state >>> 33;
                if (rest < limit) {
                    return (int) (rest % k);
                }
            }
            return 0;
        }

        private void shuffle(long seed, int n, int[] places) {
            restart(seed);
            for (int j = 0; j < n; j++) {
                places[j] = j;
            }
            for (int j = n - 1; j >= 1; j--) {
                int other = drawBelow(j + 1);
                int had = places[other];
                places[other] = places[j];
                places[j] = had;
            }
        }
    }

    /** The row of letters under way. What a question asks is found by its number, so no letter carries it. */
    private static final class Letters {
        private final int[] kinds = new int[MOST_LETTERS];
        private final int[] numbers = new int[MOST_LETTERS];
        private final int[] parities = new int[MOST_LETTERS];
        private int count;

        private boolean has(int k) {
            return k >= 0 && k < count;
        }

        private void send(int kind, int number, int parity) {
            if (count == MOST_LETTERS) {
                return;
            }
            kinds[count] = kind;
            numbers[count] = number;
            parities[count] = parity;
            count++;
        }

        private void takeOut(int k) {
            for (int i = k + 1; i < count; i++) {
                kinds[i - 1] = kinds[i];
                numbers[i - 1] = numbers[i];
                parities[i - 1] = parities[i];
            }
            count--;
        }
    }

    /** How station 1 finds and mends its differences by asking station 0 for parities. */
    private static final class Dialogue {
        /** In a pass each place is the mark of at most one range that is asked for, so these are all questions. */
        private static final int MOST_QUESTIONS = PASSES * PULSES;
        /** A round without a question mends a position or ends a pass, so no call needs as many. */
        private static final int MOST_ROUNDS = 2 * PULSES;

        private final Station answerer;
        private final Station asker;
        private final Letters letters = new Letters();
        private final int[][] orders = new int[PASSES][PULSES];
        /** The parity that is known at each mark: the first place of a block, or the end of a searched first half. */
        private final int[][] known = new int[PASSES][PULSES];
        /** What question number i + 1 asks: 65536 times its pass, 256 times from, and to. */
        private final int[] questions = new int[MOST_QUESTIONS];
        private int newest;
        private int newestMark;
        private int disclosures;
        private int current = NONE;
        private int size;
        private int length;

        private Dialogue(Station answerer, Station asker) {
            this.answerer = answerer;
            this.asker = asker;
        }

        private boolean isBegun() {
            return current != NONE;
        }

        private boolean isOver() {
            return current == PASSES;
        }

        private void begin(int blockSize, int stringLength) {
            size = blockSize;
            length = stringLength;
            for (int p = 0; p < PASSES; p++) {
                Arrays.fill(known[p], NONE);
            }
            current = 0;
            goOn();
        }

        private int passOf(int number) {
            return questions[number - 1] >> 16;
        }

        private int fromOf(int number) {
            return questions[number - 1] >> 8 & 255;
        }

        private int toOf(int number) {
            return questions[number - 1] & 255;
        }

        private int tell(int k, int what) {
            int number = letters.numbers[k];
            boolean isQuestion = letters.kinds[k] == QUESTION;
            switch (what) {
                case 0:
                    return letters.kinds[k];
                case 1:
                    return number;
                case 2:
                    return isQuestion ? passOf(number) : letters.parities[k];
                case 3:
                    return isQuestion ? fromOf(number) : NONE;
                case 4:
                    return isQuestion ? toOf(number) : NONE;
                default:
                    return NONE;
            }
        }

        private void deliver(int k) {
            int kind = letters.kinds[k];
            int number = letters.numbers[k];
            int parity = letters.parities[k];
            letters.takeOut(k);
            if (kind == QUESTION) {
                answer(number);
            } else if (number == newest && isNewestUnknown()) {
                known[passOf(newest)][newestMark] = parity;
                goOn();
            }
        }

        private void answer(int number) {
            disclosures = Math.max(disclosures, number);
            int parity = answerer.parity(orders[passOf(number)], fromOf(number), toOf(number));
            letters.send(ANSWER, number, parity);
        }

        private boolean isNewestUnknown() {
            return known[passOf(newest)][newestMark] == NONE;
        }

        private void askAgain() {
            if (isNewestUnknown()) {
                letters.send(QUESTION, newest, 0);
            }
        }

        private void ask(int inPass, int from, int to, int mark) {
            if (newest == MOST_QUESTIONS) {
                return;
            }
            questions[newest] = inPass << 16 | from << 8 | to;
            newest++;
            newestMark = mark;
            letters.send(QUESTION, newest, 0);
        }

        private void goOn() {
            boolean asked = false;
            for (int round = 0; round < MOST_ROUNDS && !asked && !isOver(); round++) {
                asked = askForBlock() || mendOrMoveOn();
            }
        }

        private boolean askForBlock() {
            int blocks = blockCount(current);
            for (int block = 0; block < blocks; block++) {
                int from = block * blockSize(current);
                if (known[current][from] == NONE) {
                    ask(current, from, blockEnd(current, from), from);
                    return true;
                }
            }
            return false;
        }

        /** Whether this had to ask a question. */
        private boolean mendOrMoveOn() {
            int block = smallestOddBlock();
            if (block == NONE) {
                current++;
                return false;
            }
            return search(block / PULSES, block % PULSES);
        }

        /** PULSES times its pass, and its first place; NONE if no block is odd. */
        private int smallestOddBlock() {
            int found = NONE;
            int fewest = PULSES + 1;
            for (int p = 0; p <= current; p++) {
                int blocks = blockCount(p);
                for (int block = 0; block < blocks; block++) {
                    int from = block * blockSize(p);
                    int to = blockEnd(p, from);
                    if (to - from < fewest && isOdd(p, from, to, from)) {
                        found = p * PULSES + from;
                        fewest = to - from;
                    }
                }
            }
            return found;
        }

        /** Whether this had to ask a question; if not, a bit has been flipped. */
        private boolean search(int inPass, int blockFrom) {
            int from = blockFrom;
            int to = blockEnd(inPass, blockFrom);
            for (int halvings = 0; halvings < PULSES && to - from > 1; halvings++) {
                int middle = from + (to - from + 1) / 2;
                if (known[inPass][middle] == NONE) {
                    ask(inPass, from, middle, middle);
                    return true;
                }
                if (isOdd(inPass, from, middle, middle)) {
                    to = middle;
                } else {
                    from = middle;
                }
            }
            asker.string[orders[inPass][from]] ^= 1;
            return false;
        }

        private boolean isOdd(int inPass, int from, int to, int mark) {
            return known[inPass][mark] != asker.parity(orders[inPass], from, to);
        }

        private int blockSize(int inPass) {
            return size << inPass;
        }

        private int blockCount(int inPass) {
            return size < LEAST_SIZE ? 0 : (length - 1) / blockSize(inPass) + 1;
        }

        private int blockEnd(int inPass, int from) {
            return Math.min(from + blockSize(inPass), length);
        }
    }
}
