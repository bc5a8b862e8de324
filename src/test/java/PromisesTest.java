/** Each promise by itself: ordinary inputs, the edges that the document names, wrong inputs and their order. */
public final class PromisesTest {
    private static final Class<IllegalArgumentException> ARGUMENT = IllegalArgumentException.class;
    private static final Class<IllegalStateException> STATE = IllegalStateException.class;
    private static final Class<IndexOutOfBoundsException> INDEX = IndexOutOfBoundsException.class;
    private static final Class<UnsupportedOperationException> UNSUPPORTED = UnsupportedOperationException.class;

    private static final int LEAST = Integer.MIN_VALUE;
    private static final int GREATEST = Integer.MAX_VALUE;

    private static final Check CHECK = new Check();

    private PromisesTest() {
    }

    public static void main(String[] args) {
        CHECK.each(PromisesTest::aNewObject, PromisesTest::record, PromisesTest::recordWrong, PromisesTest::sift,
            PromisesTest::length, PromisesTest::sample, PromisesTest::sampleWrong, PromisesTest::drawnAgain,
            PromisesTest::sampled, PromisesTest::start, PromisesTest::letterComes, PromisesTest::letterLostAndDoubled,
            PromisesTest::letterLate, PromisesTest::told, PromisesTest::tick, PromisesTest::doneAndPass,
            PromisesTest::disclosedAndAnswered, PromisesTest::questionsOfACascade, PromisesTest::shortLastBlockFirst,
            PromisesTest::halvesRoundedUp, PromisesTest::bit, PromisesTest::item, PromisesTest::tag,
            PromisesTest::shorten, PromisesTest::shortenWrong, PromisesTest::key, PromisesTest::keyOfAllPulses);
        CHECK.end();
    }

    private static void stringDue(String what, KeyDistiller x, int station, String bits) {
        CHECK.due(what, Runs.string(x, station), bits);
    }

    private static void letterDue(String what, KeyDistiller x, int k, String letter) {
        CHECK.due(what, Runs.letter(x, k), letter);
    }

    private static void orderDue(String what, KeyDistiller x, int pass, String items) {
        CHECK.due(what, Runs.order(x, pass), items);
    }

    private static void questionsDue(String what, KeyDistiller x, String questions) {
        CHECK.due(what, Runs.questions(x), questions);
    }

    private static void keyDue(String what, KeyDistiller x, int station, String bits) {
        CHECK.due(what, Runs.key(x, station, bits.length()), bits);
        CHECK.throwsDue(what + " behind", INDEX, () -> x.key(station, bits.length()));
    }

    private static void aNewObject() {
        KeyDistiller x = new KeyDistiller();
        CHECK.due("NONE", -1, () -> KeyDistiller.NONE);
        CHECK.due("new length", -1, x::length);
        CHECK.due("new sampled 0", 0, () -> x.sampled(0));
        CHECK.due("new sampled 1", 0, () -> x.sampled(1));
        CHECK.due("new told", -1, () -> x.told(0, 0));
        CHECK.due("new done", 0, () -> x.done() ? 1 : 0);
        CHECK.due("new pass", -1, x::pass);
        CHECK.due("new disclosed", 0, x::disclosed);
        CHECK.due("new answered", -1, () -> x.answered(0));
        CHECK.throwsDue("new letter", INDEX, () -> x.letter(0, 0));
        CHECK.throwsDue("new key", INDEX, () -> x.key(0, 0));
        CHECK.due("new record", 1, () -> x.record(0, 127, 1, 0, 0, 0));
        CHECK.due("nothing recorded by 1", 1, () -> x.record(1, 0, 1, 0, 0, 0));
        CHECK.due("two objects apart", 32, () -> new KeyDistiller().record(0, 96, 32, 0, 0, 0));
    }

    private static void record() {
        KeyDistiller x = new KeyDistiller();
        CHECK.due("record all at once", 32, () -> x.record(0, 0, 32, 0, 0x80000001, 0));
        CHECK.due("record the last", 33, () -> x.record(0, 127, 1, 1, 1, 1));
        CHECK.due("record to the end", 64, () -> x.record(0, 96, 31, 0, 0, 0));
        CHECK.due("record of the other", 32, () -> x.record(1, 0, 32, 0, 0x80000000, -1));
        CHECK.due("record of the other, on", 64, () -> x.record(1, 96, 32, 0x80000000, 0, -1));
        CHECK.due("bits above n do nothing", 65, () -> x.record(1, 32, 1, -2, -2, -2));
        CHECK.due("bits above n do nothing, 0", 65, () -> x.record(0, 32, 1, 0, 0, 0));
        CHECK.due("bits above n do nothing, on", 66, () -> x.record(1, 33, 1, 0, 1, 1));
        CHECK.due("bits above n do nothing, on, 0", 66, () -> x.record(0, 33, 1, 0, 1, 0));
        CHECK.due("sift what was recorded", 65, x::sift);
        CHECK.due("bit 0 at 0", 1, () -> x.bit(0, 0));
        CHECK.due("bit 31 at 0", 1, () -> x.bit(0, 31));
        CHECK.due("bit 0 at 1", 0, () -> x.bit(1, 0));
        CHECK.due("bit 31 at 1", 1, () -> x.bit(1, 31));
        CHECK.due("the 33rd pulse was not seen", 1, () -> x.bit(1, 32));
        CHECK.due("the last pulse", 1, () -> x.bit(0, 64));
    }

    private static void recordWrong() {
        KeyDistiller x = new KeyDistiller();
        x.record(0, 10, 4, 0, 5, 0);
        int[][] wrong = {{-1, 0, 1}, {2, 0, 1}, {0, 0, 0}, {0, 0, 33}, {0, 0, -1}, {0, -1, 1}, {0, 128, 1}, {0, 127, 2},
            {0, 97, 32}, {0, GREATEST, 32}, {0, LEAST, 1}, {0, 0, LEAST}, {0, 0, GREATEST}, {1, GREATEST, GREATEST}};
        for (int[] w : wrong) {
            CHECK.throwsDue("record " + w[0] + " " + w[1] + " " + w[2], ARGUMENT,
                () -> x.record(w[0], w[1], w[2], 0, 0, 0));
        }
        CHECK.throwsDue("record from inside", STATE, () -> x.record(0, 13, 2, 0, 0, 0));
        CHECK.throwsDue("record into", STATE, () -> x.record(0, 0, 11, 0, 0, 0));
        CHECK.due("what threw recorded nothing", 15, () -> x.record(0, 14, 11, 0, 0, 0));
        CHECK.due("up to what is recorded", 25, () -> x.record(0, 0, 10, 0, 0, 0));
        CHECK.due("station 1 has none of them", 4, () -> x.record(1, 10, 4, 0, 5, -1));
        CHECK.due("sift", 4, x::sift);
        stringDue("what threw changed no value", x, 0, "1010");
        CHECK.throwsDue("record behind sift", STATE, () -> x.record(1, 100, 1, 0, 0, 0));
        CHECK.throwsDue("arguments are tested first", ARGUMENT, () -> x.record(2, 100, 1, 0, 0, 0));
    }

    private static void sift() {
        KeyDistiller x = new KeyDistiller();
        x.record(0, 0, 8, 0b00001111, 0b01010101, 0b00000000);
        x.record(1, 0, 8, 0b00110011, 0b00000011, 0b10110111);
        x.record(0, 20, 1, 0, 1, 1);
        x.record(1, 21, 1, 0, 1, 1);
        CHECK.due("sift keeps what is alike and seen by 1", 3, x::sift);
        stringDue("sifted 0", x, 0, "100");
        stringDue("sifted 1", x, 1, "110");
        CHECK.throwsDue("sift again", STATE, x::sift);
        KeyDistiller empty = new KeyDistiller();
        CHECK.due("sift nothing", 0, empty::sift);
        CHECK.throwsDue("sift nothing again", STATE, empty::sift);
        KeyDistiller unseen = new KeyDistiller();
        unseen.record(0, 0, 32, 0, 0, -1);
        unseen.record(1, 0, 32, 0, 0, 0);
        CHECK.due("what only station 0 saw is not kept", 0, unseen::sift);
    }

    private static void length() {
        KeyDistiller x = new KeyDistiller();
        x.record(0, 0, 8, 0, 0, 0);
        x.record(1, 0, 8, 0, 0, 255);
        CHECK.due("length before sifting", -1, x::length);
        x.sift();
        CHECK.due("length", 8, x::length);
        x.sample(1, 3);
        CHECK.due("length behind a sample", 5, x::length);
        x.start(4, 1);
        CHECK.due("length behind the start", 5, x::length);
        KeyDistiller empty = new KeyDistiller();
        empty.sift();
        CHECK.due("length of nothing", 0, empty::length);
    }

    private static void sample() {
        // A shuffle of 8 with seed 5 is 5 1 2 3 7 6 4 0.
        KeyDistiller x = Runs.sifted(8, 0b11010010, 0b11110000);
        CHECK.due("sample of none", 0, () -> x.sample(5, 0));
        stringDue("a sample of none", x, 0, "01001011");
        CHECK.due("sample", 2, () -> x.sample(5, 2));
        stringDue("the others stay in their order, 0", x, 0, "000111");
        stringDue("the others stay in their order, 1", x, 1, "000111");
        CHECK.due("length", 6, x::length);
        CHECK.due("sample of all", 0, () -> x.sample(9, 6));
        CHECK.due("length 0", 0, x::length);
        CHECK.due("sample of none of nothing", 0, () -> x.sample(9, 0));
        // A shuffle of 8 with seed -1 is 6 5 4 7 2 1 3 0.
        KeyDistiller y = Runs.sifted(8, 0b10110010, 0b00000000);
        CHECK.due("a seed below 0", 3, () -> y.sample(-1, 4));
        stringDue("behind a seed below 0", y, 0, "0100");
        // A shuffle of 6 with seed 12 begins with 4 and 1.
        KeyDistiller z = Runs.sifted(8, 0b11001000, 0b10001000);
        CHECK.due("a first sample", 0, () -> z.sample(5, 2));
        CHECK.due("a second one is of what is left", 1, () -> z.sample(12, 2));
        stringDue("behind two samples, 0", z, 0, "0101");
        stringDue("behind two samples, 1", z, 1, "0101");
    }

    private static void sampleWrong() {
        KeyDistiller x = new KeyDistiller();
        x.record(0, 0, 8, 0, 0, 0);
        x.record(1, 0, 8, 0, 0, 255);
        CHECK.throwsDue("sample before sifting", STATE, () -> x.sample(1, 0));
        CHECK.throwsDue("sample before sifting, wrong n", STATE, () -> x.sample(1, -1));
        x.sift();
        CHECK.throwsDue("sample -1", ARGUMENT, () -> x.sample(1, -1));
        CHECK.throwsDue("sample 9", ARGUMENT, () -> x.sample(1, 9));
        CHECK.throwsDue("sample least", ARGUMENT, () -> x.sample(1, LEAST));
        CHECK.due("what threw gave up none", 8, x::length);
        CHECK.due("nor counted", 0, () -> x.sampled(0));
        x.start(4, 1);
        CHECK.throwsDue("sample behind the start", STATE, () -> x.sample(1, 1));
        CHECK.throwsDue("sample behind the start, wrong n", STATE, () -> x.sample(1, 9));
        Runs.talk(x);
        CHECK.throwsDue("sample when done", STATE, () -> x.sample(1, 0));
    }

    /** Seeds whose first draw of 0 .. 4 is 2^31 - 1, the greatest multiple of 5 itself, and one less. */
    private static void drawnAgain() {
        orderDue("drawn again", Runs.started(5, 0, 0, 4, -7847782917531415342L), 0, "1 4 3 2 0");
        orderDue("drawn again at the multiple", Runs.started(5, 0, 0, 4, -646614882277610270L), 0, "2 3 4 1 0");
        orderDue("not drawn again below it", Runs.started(5, 0, 0, 4, -7941409756980400926L), 0, "3 1 0 2 4");
        orderDue("never drawn again for 4", Runs.started(4, 0, 0, 4, -4503769206581580574L), 0, "0 1 2 3");
        KeyDistiller x = Runs.sifted(3, 0b010, 0b000);
        CHECK.due("drawn again in a sample", 1, () -> x.sample(-7847782917531415342L, 1));
    }

    private static void sampled() {
        KeyDistiller x = new KeyDistiller();
        CHECK.due("sampled before sifting", 0, () -> x.sampled(0));
        x.record(0, 0, 8, 0, 0b11010010, 0);
        x.record(1, 0, 8, 0, 0b11110000, 255);
        x.sift();
        x.sample(5, 2);
        CHECK.due("sampled", 2, () -> x.sampled(0));
        CHECK.due("sampled that differed", 2, () -> x.sampled(1));
        x.sample(6, 1);
        x.sample(7, 0);
        CHECK.due("sampled together", 3, () -> x.sampled(0));
        CHECK.due("sampled that differed together", 2, () -> x.sampled(1));
        for (int what : new int[] {-1, 2, 3, LEAST, GREATEST}) {
            CHECK.due("sampled " + what, -1, () -> x.sampled(what));
        }
        x.start(4, 0);
        CHECK.due("sampled behind the start", 3, () -> x.sampled(0));
    }

    private static void start() {
        KeyDistiller x = new KeyDistiller();
        x.record(0, 0, 13, 0, 0, 0);
        x.record(1, 0, 13, 0, 0, -1);
        CHECK.throwsDue("start before sifting", STATE, () -> x.start(4, 1));
        CHECK.throwsDue("start before sifting, wrong k", STATE, () -> x.start(3, 1));
        x.sift();
        for (int k : new int[] {3, 14, 0, -4, LEAST, GREATEST}) {
            CHECK.throwsDue("start " + k, ARGUMENT, () -> x.start(k, 1));
        }
        CHECK.due("what threw began nothing", -1, x::pass);
        CHECK.due("sample still", 0, () -> x.sample(1, 0));
        CHECK.due("start", 1, () -> x.start(4, 1));
        letterDue("the first question", x, 0, "0 1 0 0 4");
        CHECK.throwsDue("start again", STATE, () -> x.start(4, 1));
        CHECK.throwsDue("start again, wrong k", STATE, () -> x.start(3, 1));
        letterDue("nothing changed", x, 0, "0 1 0 0 4");
        KeyDistiller whole = Runs.sifted(13, 0, 0);
        CHECK.due("start with the length", 1, () -> whole.start(13, Long.MAX_VALUE));
        letterDue("a block of all", whole, 0, "0 1 0 0 13");
        KeyDistiller few = Runs.sifted(3, 0, 0);
        CHECK.throwsDue("start with too few", ARGUMENT, () -> few.start(4, 1));
        CHECK.throwsDue("start with too few, 3", ARGUMENT, () -> few.start(3, 1));
        KeyDistiller short13 = Runs.sifted(16, 0, 0);
        short13.sample(1, 3);
        CHECK.throwsDue("the length behind a sample", ARGUMENT, () -> short13.start(14, 1));
        CHECK.due("start with all that is left", 1, () -> short13.start(13, 1));
    }

    private static void letterComes() {
        KeyDistiller x = Runs.started(16, 0xB38F, 0xB3AF, 4, 3);
        for (int action : new int[] {-1, 3, LEAST, GREATEST}) {
            CHECK.throwsDue("action " + action, ARGUMENT, () -> x.letter(0, action));
            CHECK.throwsDue("action first " + action, ARGUMENT, () -> x.letter(9, action));
        }
        for (int k : new int[] {-1, 1, 16, LEAST, GREATEST}) {
            for (int action = 0; action < 3; action++) {
                int a = action;
                CHECK.throwsDue("letter " + k + " " + a, INDEX, () -> x.letter(k, a));
            }
        }
        letterDue("nothing changed", x, 0, "0 1 0 0 4");
        CHECK.due("a question comes and is answered", 1, () -> x.letter(0, 0));
        letterDue("its answer", x, 0, "1 1 0 -1 -1");
        CHECK.due("an answer comes and the next is asked", 1, () -> x.letter(0, 0));
        letterDue("the next question", x, 0, "0 2 0 4 8");
        KeyDistiller before = Runs.sifted(8, 0, 0);
        CHECK.throwsDue("letter before the start", INDEX, () -> before.letter(0, 0));
        CHECK.throwsDue("wrong letter before the start", ARGUMENT, () -> before.letter(0, 3));
    }

    private static void letterLostAndDoubled() {
        KeyDistiller x = Runs.started(16, 0xB38F, 0xB3AF, 4, 3);
        CHECK.due("lost", 0, () -> x.letter(0, 1));
        CHECK.throwsDue("lost again", INDEX, () -> x.letter(0, 1));
        x.tick();
        CHECK.due("doubled", 2, () -> x.letter(0, 2));
        letterDue("the double", x, 1, "0 1 0 0 4");
        x.letter(0, 0);
        letterDue("the double has moved up", x, 0, "0 1 0 0 4");
        letterDue("the answer is the last one", x, 1, "1 1 0 -1 -1");
        CHECK.due("the answer is doubled", 3, () -> x.letter(1, 2));
        letterDue("the answer's double", x, 2, "1 1 0 -1 -1");
        CHECK.due("one in the midst is lost", 2, () -> x.letter(1, 1));
        letterDue("the others stay, 0", x, 0, "0 1 0 0 4");
        letterDue("the others stay, 1", x, 1, "1 1 0 -1 -1");
        for (int n = 3; n <= 16; n++) {
            CHECK.due("doubled to " + n, n, () -> x.letter(1, 2));
        }
        CHECK.throwsDue("doubled at 16", STATE, () -> x.letter(0, 2));
        CHECK.throwsDue("no such letter is told first", INDEX, () -> x.letter(16, 2));
        CHECK.due("still 16 when a question comes", 16, () -> x.letter(0, 0));
        letterDue("its answer is the last of 16", x, 15, "1 1 0 -1 -1");
        CHECK.due("16 when the answer leads to a question", 16, () -> x.letter(3, 0));
        letterDue("the question is the last of 16", x, 15, "0 2 0 4 8");
    }

    private static void letterLate() {
        KeyDistiller x = Runs.started(16, 0xB38F, 0xB3AF, 4, 3);
        x.letter(0, 2);
        x.letter(0, 0);
        x.letter(1, 2);
        CHECK.due("the first answer leads on", 3, () -> x.letter(1, 0));
        letterDue("question 2", x, 2, "0 2 0 4 8");
        CHECK.due("an answer to an older question does nothing", 2, () -> x.letter(1, 0));
        CHECK.due("an older question is answered again", 2, () -> x.letter(0, 0));
        letterDue("the older question's answer", x, 1, "1 1 0 -1 -1");
        CHECK.due("but it is counted once", 1, x::disclosed);
        CHECK.due("that answer does nothing", 1, () -> x.letter(1, 0));
        CHECK.due("question 2 comes", 1, () -> x.letter(0, 0));
        CHECK.due("counted", 2, x::disclosed);
        CHECK.due("its answer is lost", 0, () -> x.letter(0, 1));
        CHECK.due("but disclosed", 2, x::disclosed);
        x.tick();
        Runs.talk(x);
        CHECK.due("done all the same", 1, () -> x.done() ? 1 : 0);
        CHECK.due("with as many questions", 10, x::disclosed);
        KeyDistiller y = Runs.started(16, 0xFFFE, 0xFFFE, 16, 3);
        y.letter(0, 2);
        y.letter(0, 0);
        y.letter(1, 2);
        letterDue("a doubled answer has its parity", y, 2, "1 1 1 -1 -1");
        y.letter(1, 0);
        y.letter(2, 0);
        CHECK.due("question 2 is answered", 2, y::disclosed);
        y.letter(0, 0);
        CHECK.due("question 1 comes late", 2, y::disclosed);
        CHECK.due("answered 1 stays", 65536 + 16, () -> y.answered(1));
    }

    private static void told() {
        KeyDistiller x = Runs.started(13, 0x1ACE, 0x1ACE, 5, 3);
        letterDue("a question", x, 0, "0 1 0 0 5");
        for (int what : new int[] {-1, 5, LEAST, GREATEST}) {
            CHECK.due("told what " + what, -1, () -> x.told(0, what));
        }
        for (int k : new int[] {-1, 1, 16, LEAST, GREATEST}) {
            CHECK.due("told of letter " + k, -1, () -> x.told(k, 0));
        }
        x.letter(0, 0);
        letterDue("an answer", x, 0, "1 1 " + (x.bit(0, x.item(0, 0)) ^ x.bit(0, x.item(0, 1)) ^ x.bit(0, x.item(0, 2))
            ^ x.bit(0, x.item(0, 3)) ^ x.bit(0, x.item(0, 4))) + " -1 -1");
        CHECK.due("an answer has no 5", -1, () -> x.told(0, 5));
        x.letter(0, 0);
        x.letter(0, 0);
        x.letter(0, 0);
        letterDue("the last block has fewer", x, 0, "0 3 0 10 13");
        x.letter(0, 0);
        x.letter(0, 0);
        letterDue("a question of pass 1", x, 0, "0 4 1 0 10");
        Runs.talk(x);
        CHECK.due("told when none is under way", -1, () -> x.told(0, 0));
    }

    private static void tick() {
        KeyDistiller x = Runs.sifted(16, 0xB38F, 0xB3AF);
        CHECK.throwsDue("tick before the start", STATE, x::tick);
        x.start(4, 3);
        CHECK.due("tick", 2, x::tick);
        letterDue("asked again", x, 1, "0 1 0 0 4");
        x.letter(0, 0);
        CHECK.due("tick while the answer is under way", 3, x::tick);
        x.letter(1, 0);
        letterDue("the next question", x, 2, "0 2 0 4 8");
        CHECK.due("tick sends the newest", 4, x::tick);
        letterDue("the newest again", x, 3, "0 2 0 4 8");
        for (int n = 5; n <= 16; n++) {
            CHECK.due("tick to " + n, n, x::tick);
        }
        CHECK.due("a tick at 16 is lost", 16, x::tick);
        letterDue("the last of 16", x, 15, "0 2 0 4 8");
        KeyDistiller done = Runs.talked(16, 0xB38F, 0xB3AF, 4, 3);
        CHECK.due("tick when all is known", 0, done::tick);
        KeyDistiller late = Runs.started(16, 0, 0, 16, 3);
        for (int i = 0; i < 6; i++) {
            late.letter(0, 0);
        }
        late.letter(0, 2);
        late.letter(0, 0);
        late.letter(1, 0);
        CHECK.due("done with a letter under way", 1, () -> late.done() ? 1 : 0);
        CHECK.due("tick when done sends nothing", 1, late::tick);
        CHECK.due("a question that comes when done is answered", 1, () -> late.letter(0, 0));
        letterDue("the answer when done", late, 0, "1 4 0 -1 -1");
        CHECK.due("an answer that comes when done does nothing", 0, () -> late.letter(0, 0));
        CHECK.due("disclosed when done", 4, late::disclosed);
    }

    private static void doneAndPass() {
        KeyDistiller x = Runs.sifted(32, 0x5A3C96E1, 0x5A3C96E1);
        CHECK.due("pass before the start", -1, x::pass);
        CHECK.due("done before the start", 0, () -> x.done() ? 1 : 0);
        x.start(16, 9);
        int[] passes = {0, 0, 0, 0, 1, 1, 2, 2, 3};
        for (int i = 0; i < 9; i++) {
            CHECK.due("pass behind " + i, passes[i], x::pass);
            CHECK.due("done behind " + i, 0, () -> x.done() ? 1 : 0);
            if (i < 8) {
                x.letter(0, 0);
            }
        }
        x.letter(0, 0);
        CHECK.due("an answer under way is not known", 3, x::pass);
        x.letter(0, 0);
        CHECK.due("pass when done", 4, x::pass);
        CHECK.due("done", 1, () -> x.done() ? 1 : 0);
    }

    private static void disclosedAndAnswered() {
        KeyDistiller before = Runs.sifted(8, 0, 0);
        CHECK.due("disclosed before the start", 0, before::disclosed);
        KeyDistiller x = Runs.started(16, 0xB38F, 0xB3AF, 4, 3);
        CHECK.due("a question under way is not answered", 0, x::disclosed);
        CHECK.due("answered 0 before", -1, () -> x.answered(0));
        x.letter(0, 0);
        CHECK.due("answered though the answer is under way", 1, x::disclosed);
        CHECK.due("answered 0", 4, () -> x.answered(0));
        x.letter(0, 0);
        CHECK.due("asked but not answered", -1, () -> x.answered(1));
        for (int i : new int[] {-1, 512, LEAST, GREATEST}) {
            CHECK.due("answered " + i, -1, () -> x.answered(i));
        }
        Runs.talk(x);
        questionsDue("one difference", x,
            "0:0-4 0:4-8 0:8-12 0:12-16 0:8-10 0:8-9 1:0-8 1:8-16 2:0-16 3:0-16");
        stringDue("mended", x, 1, "1111000111001101");
    }

    /** Mending in a later pass makes blocks of an earlier one odd: those are smaller and are searched first. */
    private static void questionsOfACascade() {
        int values = 0x5A3C96E1;
        KeyDistiller x = Runs.talked(32, values, values ^ (1 << 2 | 1 << 9 | 1 << 17 | 1 << 30), 4, 94);
        questionsDue("a cascade", x,
            "0:0-4 0:4-8 0:8-12 0:12-16 0:16-20 0:20-24 0:24-28 0:28-32 1:0-8 1:8-16 1:16-24 1:24-32 1:8-12 "
            + "1:8-10 1:8-9 0:16-18 0:18-19 2:0-16 2:16-32 2:0-8 2:8-12 2:12-14 2:14-15 0:4-6 0:6-7 3:0-32");
        for (int i = 0; i < 32; i++) {
            int at = i;
            CHECK.due("cascade bit " + i, values >>> i & 1, () -> x.bit(1, at));
        }
    }

    private static void shortLastBlockFirst() {
        // The order of pass 0 begins with 2 and ends with 10, which is a block of one place.
        KeyDistiller x = Runs.started(13, 0x1ACE, 0x1ACE ^ (1 << 2 | 1 << 10), 4, 0);
        for (int i = 0; i < 7; i++) {
            x.letter(0, 0);
        }
        CHECK.due("not mended yet", 0, () -> x.bit(1, 10) ^ x.bit(0, 10) ^ 1);
        x.letter(0, 0);
        CHECK.due("mended without a question", 0, () -> x.bit(1, 10) ^ x.bit(0, 10));
        CHECK.due("the other one is not", 1, () -> x.bit(1, 2) ^ x.bit(0, 2));
        letterDue("it is searched then", x, 0, "0 5 0 0 2");
        Runs.talk(x);
        questionsDue("a short last block", x,
            "0:0-4 0:4-8 0:8-12 0:12-13 0:0-2 0:0-1 1:0-8 1:8-13 2:0-13 3:0-13");
    }

    /** The order of pass 0 is 3 2 0 1 4: of 5 places the first half has 3. */
    private static void halvesRoundedUp() {
        questionsDue("in the first half", Runs.talked(5, 0b11001, 0b11000, 5, 1),
            "0:0-5 0:0-3 0:0-2 1:0-5 2:0-5 3:0-5");
        questionsDue("in the rest", Runs.talked(5, 0b11001, 0b01001, 5, 1),
            "0:0-5 0:0-3 0:3-4 1:0-5 2:0-5 3:0-5");
    }

    private static void bit() {
        KeyDistiller x = new KeyDistiller();
        x.record(0, 0, 8, 0, 0b11010010, 0);
        x.record(1, 0, 8, 0, 0b11010011, 255);
        CHECK.throwsDue("bit before sifting", STATE, () -> x.bit(0, 0));
        CHECK.throwsDue("wrong bit before sifting", STATE, () -> x.bit(2, -1));
        x.sift();
        stringDue("string 0", x, 0, "01001011");
        stringDue("string 1", x, 1, "11001011");
        for (int i : new int[] {-1, 8, 128, LEAST, GREATEST}) {
            CHECK.throwsDue("bit " + i, INDEX, () -> x.bit(1, i));
        }
        for (int station : new int[] {-1, 2, LEAST, GREATEST}) {
            CHECK.throwsDue("bit of station " + station, INDEX, () -> x.bit(station, 0));
        }
        x.sample(5, 1);
        CHECK.throwsDue("a bit that was given up", INDEX, () -> x.bit(0, 7));
        x.start(4, 1);
        Runs.talk(x);
        CHECK.due("the bit as it is now", 0, () -> x.bit(1, 0));
    }

    private static void item() {
        KeyDistiller x = new KeyDistiller();
        CHECK.throwsDue("item of a new object", STATE, () -> x.item(4, -1));
        x.record(0, 0, 16, 0, 0, 0);
        x.record(1, 0, 16, 0, 0, -1);
        x.sift();
        CHECK.throwsDue("item before the start", STATE, () -> x.item(0, 0));
        x.start(4, 3);
        orderDue("pass 0", x, 0, "9 12 10 11 8 7 4 1 2 5 15 0 6 14 13 3");
        orderDue("pass 1", x, 1, "0 11 3 14 4 9 6 2 13 15 1 5 12 8 7 10");
        orderDue("pass 2", x, 2, "5 1 12 15 13 3 14 2 11 9 10 7 6 4 8 0");
        orderDue("pass 3", x, 3, "12 10 1 15 4 5 9 14 3 6 11 8 0 13 2 7");
        for (int pass : new int[] {-1, 4, LEAST, GREATEST}) {
            CHECK.throwsDue("item of pass " + pass, INDEX, () -> x.item(pass, 0));
        }
        for (int i : new int[] {-1, 16, LEAST, GREATEST}) {
            CHECK.throwsDue("item " + i, INDEX, () -> x.item(0, i));
        }
        KeyDistiller wrapped = Runs.started(16, 0, 0, 4, Long.MAX_VALUE);
        KeyDistiller least = Runs.started(16, 0, 0, 4, Long.MIN_VALUE);
        for (int i = 0; i < 16; i++) {
            int at = i;
            CHECK.due("the seed wraps, item " + i, least.item(0, i), () -> wrapped.item(1, at));
        }
    }

    private static void tag() {
        KeyDistiller x = new KeyDistiller();
        x.record(0, 0, 19, 0, 0x5874D, 0);
        x.record(1, 0, 19, 0, 1 << 16, -1);
        CHECK.throwsDue("tag before sifting", STATE, () -> x.tag(0, 1));
        CHECK.throwsDue("wrong tag before sifting", STATE, () -> x.tag(2, 0));
        x.sift();
        for (int station : new int[] {-1, 2, LEAST, GREATEST}) {
            CHECK.throwsDue("tag of station " + station, ARGUMENT, () -> x.tag(station, 1));
        }
        for (int r : new int[] {0, -1, 65536, LEAST, GREATEST}) {
            CHECK.throwsDue("tag with " + r, ARGUMENT, () -> x.tag(0, r));
        }
        KeyDistiller empty = new KeyDistiller();
        empty.sift();
        CHECK.due("tag of nothing", 0, () -> empty.tag(0, 7));
        KeyDistiller single = Runs.sifted(1, 1, 0);
        CHECK.due("tag of a single bit with 1", 0, () -> single.tag(0, 1));
        CHECK.due("tag of a single bit with 2", 6, () -> single.tag(0, 2));
        CHECK.due("tag of a single 0", 2, () -> single.tag(1, 2));
        CHECK.due("the product is taken modulo", 43, () -> Runs.sifted(2, 0, 0).tag(0, 32768));
        CHECK.due("tag of 17 bits", 54, () -> Runs.sifted(17, 1 << 16, 0).tag(0, 3));
        CHECK.due("tag of 19 bits", 23744, () -> x.tag(0, 65535));
        CHECK.due("a product of 16 bits", 20096, () -> Runs.sifted(16, 52428, 0).tag(0, 40000));
        KeyDistiller all = Runs.allPulses(new int[] {-1, -1, -1, -1});
        CHECK.due("tag of all pulses", 13547, () -> all.tag(1, 32768));
    }

    private static void shorten() {
        KeyDistiller x = Runs.talked(32, 0x5A3C96E1, 0x5A3C96E1, 32, 9);
        CHECK.due("disclosed", 4, x::disclosed);
        CHECK.due("shorten", 12, () -> x.shorten(1, 1, 0));
        CHECK.due("shorten with a margin", 7, () -> x.shorten(1, 65535, 5));
        CHECK.due("shorten to one bit", 1, () -> x.shorten(1, 1, 11));
        CHECK.throwsDue("no bits", UNSUPPORTED, () -> x.shorten(1, 1, 12));
        CHECK.throwsDue("less than no bits", UNSUPPORTED, () -> x.shorten(1, 1, 128));
        KeyDistiller all = Runs.allPulses(new int[] {1, 2, 3, 4});
        all.start(128, 5);
        Runs.talk(all);
        CHECK.due("shorten all pulses", 108, () -> all.shorten(1, 1, 0));
    }

    private static void shortenWrong() {
        KeyDistiller x = new KeyDistiller();
        CHECK.throwsDue("shorten a new object", STATE, () -> x.shorten(1, 0, 0));
        x.record(0, 0, 32, 0, 0x5A3C96E1, 0);
        x.record(1, 0, 32, 0, 0x5A3C96E1 ^ (1 | 1 << 21), -1);
        x.sift();
        CHECK.throwsDue("shorten before the start", STATE, () -> x.shorten(1, 1, 0));
        x.start(32, 9);
        for (int i = 0; i < 8; i++) {
            CHECK.throwsDue("shorten before it is done", STATE, () -> x.shorten(1, 0, -1));
            x.letter(0, 0);
        }
        CHECK.due("done", 1, () -> x.done() ? 1 : 0);
        for (int r : new int[] {0, -1, 65536, LEAST, GREATEST}) {
            CHECK.throwsDue("shorten with " + r, ARGUMENT, () -> x.shorten(1, r, 0));
        }
        for (int margin : new int[] {-1, 129, LEAST, GREATEST}) {
            CHECK.throwsDue("shorten with a margin of " + margin, ARGUMENT, () -> x.shorten(1, 1, margin));
        }
        CHECK.throwsDue("the tags differ", UNSUPPORTED, () -> x.shorten(1, 33, 0));
        CHECK.throwsDue("there is no key then", INDEX, () -> x.key(0, 0));
        CHECK.due("tags can be alike by chance", 12, () -> x.shorten(1, 32, 0));
        CHECK.due("tag 0", 47309, () -> x.tag(0, 32));
        CHECK.due("tag 1", 47309, () -> x.tag(1, 32));
    }

    private static void key() {
        // Two differences stay, and with 32 the tags are alike, so each station has a key of its own.
        KeyDistiller x = Runs.talked(32, 0x5A3C96E1, 0x5A3C96E1 ^ (1 | 1 << 21), 32, 9);
        CHECK.throwsDue("key before it is shortened", INDEX, () -> x.key(0, 0));
        x.shorten(2024, 32, 0);
        keyDue("key 0", x, 0, "001000111000");
        keyDue("key 1", x, 1, "101001011100");
        for (int i : new int[] {-1, 12, LEAST, GREATEST}) {
            CHECK.throwsDue("key bit " + i, INDEX, () -> x.key(0, i));
        }
        for (int station : new int[] {-1, 2, LEAST, GREATEST}) {
            CHECK.throwsDue("key of station " + station, INDEX, () -> x.key(station, 0));
        }
        CHECK.throwsDue("what throws", UNSUPPORTED, () -> x.shorten(-7, 33, 0));
        CHECK.throwsDue("what throws too", UNSUPPORTED, () -> x.shorten(-7, 32, 12));
        CHECK.throwsDue("and this", ARGUMENT, () -> x.shorten(-7, 32, -1));
        keyDue("leaves the key, 0", x, 0, "001000111000");
        x.shorten(-7, 32, 7);
        keyDue("the latest, 0", x, 0, "00101");
        keyDue("the latest, 1", x, 1, "11100");
        x.shorten(-7, 32, 11);
        keyDue("one bit, 0", x, 0, "1");
        keyDue("one bit, 1", x, 1, "0");
        x.tick();
        keyDue("a tick leaves it", x, 1, "0");
    }

    private static void keyOfAllPulses() {
        KeyDistiller x = Runs.allPulses(new int[] {-1515870811, 252645135, 858993459, 1431655765});
        x.start(128, 0);
        Runs.talk(x);
        CHECK.due("tag", 12904, () -> x.tag(0, 4321));
        CHECK.due("shorten", 108, () -> x.shorten(123456789, 4321, 0));
        java.math.BigInteger want = new java.math.BigInteger("98a130f96781bbac435b3218e", 16);
        for (int i = 0; i < 108; i++) {
            int at = i;
            CHECK.due("key bit " + i, want.testBit(i) ? 1 : 0, () -> x.key(at % 2, at));
        }
    }
}
