import java.util.Arrays;
import java.util.HashSet;
import java.util.Set;

/** Each sentence of the document that the two tests of edges leave, as it names no boundary case, by itself. */
public final class SentencesTest {
    private static final int VALUES = 0x5A3C96E1;
    /** Four differences, of which blocks of pass 0 with the seed 94 show none. */
    private static final int FOUR_OFF = VALUES ^ (1 << 2 | 1 << 9 | 1 << 17 | 1 << 30);
    /** The orders of 12 places with the seed 42. */
    private static final int[][] ORDERS = {
        {11, 4, 3, 2, 0, 7, 5, 9, 6, 8, 1, 10}, {4, 0, 7, 10, 6, 5, 11, 3, 9, 8, 2, 1},
        {4, 9, 11, 6, 3, 5, 2, 0, 10, 7, 1, 8}, {9, 0, 11, 6, 1, 4, 8, 5, 3, 7, 2, 10}};

    private static final Check CHECK = new Check();

    private SentencesTest() {
    }

    public static void main(String[] args) {
        CHECK.each(SentencesTest::whatAStationRecords, SentencesTest::theSeedAtFirst, SentencesTest::whatIsDrawn,
            SentencesTest::theFirstPlaces, SentencesTest::itemsOfAShuffle, SentencesTest::theStringsAtTheStart,
            SentencesTest::theSizeAndTheSeed, SentencesTest::passes, SentencesTest::placesOfAPass,
            SentencesTest::parityAtAStation, SentencesTest::whatIsKnown, SentencesTest::justOneQuestion,
            SentencesTest::oddBlocks, SentencesTest::eachQuestionIsAnswered, SentencesTest::theTagAtFirst,
            SentencesTest::theConstant, SentencesTest::howManyAreRecorded);
        CHECK.end();
    }

    private static void whatAStationRecords() {
        CHECK.about("Each STATION, 0 and 1, can record of a pulse a basis bit, a value bit, and whether it was seen.");
        for (int which = 0; which < 64; which++) {
            int[] of0 = {which & 1, which >> 1 & 1, which >> 2 & 1};
            int[] of1 = {which >> 3 & 1, which >> 4 & 1, which >> 5 & 1};
            KeyDistiller x = new KeyDistiller();
            x.record(0, 50, 1, of0[0], of0[1], of0[2]);
            x.record(1, 50, 1, of1[0], of1[1], of1[2]);
            x.sift();
            String due = of0[0] == of1[0] && of1[2] == 1 ? of0[1] + " " + of1[1] : " ";
            CHECK.due("basis, value, seen: " + Arrays.toString(of0) + " and " + Arrays.toString(of1),
                Runs.string(x, 0) + " " + Runs.string(x, 1), due);
        }
    }

    /** What was drawn before leaves nothing behind. */
    private static void theSeedAtFirst() {
        CHECK.about("DRAWING with a seed: S is the seed at first");
        KeyDistiller x = Runs.sifted(32, VALUES, VALUES);
        x.sample(9, 0);
        x.sample(-3, 0);
        x.start(32, 9);
        Runs.talk(x);
        KeyDistiller fresh = Runs.started(32, VALUES, VALUES, 32, 9);
        for (int pass = 0; pass < 4; pass++) {
            CHECK.due("pass " + pass + " behind other samples", Runs.order(x, pass), Runs.order(fresh, pass));
        }
        x.shorten(2024, 7, 0);
        CHECK.due("a key", Runs.key(x, 0, 12), "001000111000");
        x.shorten(77, 7, 3);
        x.shorten(2024, 7, 0);
        CHECK.due("the same seed again", Runs.key(x, 0, 12), "001000111000");
        KeyDistiller twice = Runs.sifted(8, 0b11010010, 0b11110000);
        twice.sample(5, 0);
        twice.sample(5, 2);
        CHECK.due("the same seed in a sample again", Runs.string(twice, 0), "000111");
    }

    /** The draw for the last place of n is what that place has in the end, as what is there is exchanged no more. */
    private static void whatIsDrawn() {
        CHECK.about("otherwise what is left of R when divided by k is drawn");
        // Seeds whose first R is 1, 1000000007, 2^30.
        long[] seeds = {6741806831874165970L, 5305804771522333906L, 8670383994026151122L};
        int[] sizes = {6, 13, 100, 128};
        int[][] due = {{1, 1, 1, 1}, {5, 6, 7, 7}, {4, 12, 24, 0}};
        for (int s = 0; s < seeds.length; s++) {
            for (int n = 0; n < sizes.length; n++) {
                KeyDistiller x = Runs.zeros(sizes[n]);
                x.start(4, seeds[s]);
                int last = sizes[n] - 1;
                CHECK.due("seed " + seeds[s] + ", 0 .. " + last, due[s][n], () -> x.item(0, last));
            }
        }
    }

    private static void theFirstPlaces() {
        CHECK.about("A SHUFFLE of n places with a seed: at first place j has j");
        CHECK.due("4 places, each exchanged with itself", Runs.order(Runs.started(4, 0, 0, 4, 6), 0), "0 1 2 3");
        CHECK.due("5 places, each exchanged with itself", Runs.order(Runs.started(5, 0, 0, 4, 35), 0), "0 1 2 3 4");
        CHECK.due("6 places, each exchanged with itself", Runs.order(Runs.started(6, 0, 0, 4, 413), 0), "0 1 2 3 4 5");
        CHECK.due("4 places, each exchanged with the first", Runs.order(Runs.started(4, 0, 0, 4, 2), 0), "1 2 3 0");
        CHECK.due("5 places, each exchanged with the first", Runs.order(Runs.started(5, 0, 0, 4, 83), 0), "1 2 3 4 0");
    }

    private static String joined(int[] items) {
        StringBuilder text = new StringBuilder();
        for (int i = 0; i < items.length; i++) {
            text.append(i == 0 ? "" : " ").append(items[i]);
        }
        return text.toString();
    }

    private static void itemsOfAShuffle() {
        CHECK.about("Item i of it is what place i has in the end.");
        KeyDistiller x = Runs.started(12, 0, 0, 4, 42);
        for (int pass = 0; pass < 4; pass++) {
            CHECK.due("12 places, seed " + (42 + pass), Runs.order(x, pass), joined(ORDERS[pass]));
        }
        // Of the same order a sample takes the first items: 11, 4, 3 of which just 4 differs.
        KeyDistiller y = Runs.sifted(12, 0, 1 << 4 | 1 << 2);
        CHECK.due("the first items are sampled", 1, () -> y.sample(42, 3));
        CHECK.due("the fourth is not", Runs.string(y, 1), "001000000");
    }

    /** What the letters and the strings show, one behind the other, until the dialogue is done. */
    private static String wholeDialogue(KeyDistiller x) {
        StringBuilder text = new StringBuilder();
        for (int i = 0; i < 40 && !x.done(); i++) {
            text.append(Runs.letter(x, 0)).append('/').append(x.pass()).append(' ');
            x.letter(0, 0);
        }
        return text.append(Runs.string(x, 0)).append(' ').append(Runs.string(x, 1)).toString();
    }

    private static void theStringsAtTheStart() {
        CHECK.about("THE DIALOGUE is about the strings at the START");
        // The order of 16 begins with 13, 11, 12, 9: without the sample the dialogue would be about these too.
        KeyDistiller sampled = Runs.sifted(16, 0xA5C3, 0xA5D2);
        sampled.sample(1, 4);
        CHECK.due("12 are left", 12, sampled::length);
        int left0 = Integer.parseInt(new StringBuilder(Runs.string(sampled, 0)).reverse().toString(), 2);
        int left1 = Integer.parseInt(new StringBuilder(Runs.string(sampled, 1)).reverse().toString(), 2);
        sampled.start(4, 42);
        KeyDistiller alone = Runs.started(12, left0, left1, 4, 42);
        CHECK.due("as if just what is left had been recorded", wholeDialogue(sampled), wholeDialogue(alone));
        CHECK.due("mended", Runs.string(sampled, 1), Runs.string(sampled, 0));
    }

    private static void theSizeAndTheSeed() {
        CHECK.about("THE DIALOGUE is about the strings at the START, with a size K and a seed.");
        for (int k = 4; k <= 12; k++) {
            KeyDistiller x = Runs.started(12, 0, 0, k, 42);
            CHECK.due("the first block, K " + k, Runs.letter(x, 0), "0 1 0 0 " + k);
            CHECK.due("the order, K " + k, Runs.order(x, 0), joined(ORDERS[0]));
        }
        KeyDistiller later = Runs.started(12, 0, 0, 4, 44);
        CHECK.due("another seed", Runs.order(later, 0), joined(ORDERS[2]));
        CHECK.due("another seed, pass 1", Runs.order(later, 1), joined(ORDERS[3]));
    }

    private static void passes() {
        CHECK.about("PASSES are 0 .. 3");
        KeyDistiller x = Runs.started(12, 0, 0, 12, 42);
        StringBuilder seen = new StringBuilder();
        for (int i = 0; i < 20 && !x.done(); i++) {
            seen.append(x.pass()).append(':').append(x.told(0, 0) == 0 ? x.told(0, 2) : x.pass()).append(' ');
            x.letter(0, 0);
        }
        CHECK.due("one behind the other", seen.toString(), "0:0 0:0 1:1 1:1 2:2 2:2 3:3 3:3 ");
        CHECK.due("a question in each", Runs.questions(x), "0:0-12 1:0-12 2:0-12 3:0-12");
    }

    private static boolean isPlaced(int pass, int from, int to, int position) {
        for (int place = from; place < to; place++) {
            if (ORDERS[pass][place] == position) {
                return true;
            }
        }
        return false;
    }

    private static void placesOfAPass() {
        CHECK.about("place i of the pass is position item i");
        for (int position = 0; position < 12; position++) {
            KeyDistiller x = Runs.started(12, 1 << position, 1 << position, 4, 42);
            int asked = 0;
            for (; asked < 10 && !x.done(); asked++) {
                int pass = x.told(0, 2);
                int from = x.told(0, 3);
                int to = x.told(0, 4);
                x.letter(0, 0);
                CHECK.due("position " + position + " in " + pass + ":" + from + "-" + to,
                    isPlaced(pass, from, to, position) ? 1 : 0, () -> x.told(0, 2));
                x.letter(0, 0);
            }
            CHECK.due("seven blocks", asked + " " + x.done(), "7 true");
        }
    }

    private static void parityAtAStation() {
        CHECK.about("its PARITY at a station is the exclusive-or of that station's bits there");
        // The first block has the positions 11, 4, 3 and 2; all else is 1 at station 0.
        for (int ones = 0; ones < 16; ones++) {
            int there = (ones & 1) << 11 | (ones >> 1 & 1) << 4 | (ones >> 2 & 1) << 3 | (ones >> 3 & 1) << 2;
            int others = 0xFFF & ~(1 << 11 | 1 << 4 | 1 << 3 | 1 << 2);
            for (int mine : new int[] {0, 0xFFF, 1 << 4}) {
                KeyDistiller x = Runs.started(12, there | others, mine, 4, 42);
                x.letter(0, 0);
                CHECK.due("ones " + Integer.toBinaryString(ones) + " at 0, " + mine + " at 1",
                    Runs.letter(x, 0), "1 1 " + Integer.bitCount(ones) % 2 + " -1 -1");
            }
        }
    }

    private static void whatIsKnown() {
        CHECK.about("Station 1 KNOWS parities that station 0 answered.");
        KeyDistiller x = Runs.started(12, 0, 1 << 4, 4, 42);
        x.letter(0, 0);
        x.letter(0, 1);
        CHECK.due("an answer that is lost is not known", 1, x::tick);
        CHECK.due("it asks for the same again", Runs.letter(x, 0), "0 1 0 0 4");
        x.letter(0, 0);
        CHECK.due("an answer that comes is known", 1, () -> x.letter(0, 0));
        CHECK.due("it asks for the next", Runs.letter(x, 0), "0 2 0 4 8");
        Runs.talk(x);
        // It could work out 2:0-12 and 3:0-12 from the blocks of pass 0, for all positions are in them; but it asks.
        CHECK.due("what station 0 did not answer is not known", Runs.questions(x),
            "0:0-4 0:4-8 0:8-12 0:0-2 0:0-1 1:0-8 1:8-12 2:0-12 3:0-12");
        CHECK.due("mended", Runs.string(x, 1), "000000000000");
    }

    private static void justOneQuestion() {
        CHECK.about("It goes on as far as it can without a question, and then asks just one");
        // 24 bits, of which every third differs.
        KeyDistiller x = Runs.started(24, 0, 0x249249, 4, 17);
        Set<String> asked = new HashSet<>();
        int number = 0;
        for (; number < 90 && !x.done(); number++) {
            String question = x.told(0, 2) + ":" + x.told(0, 3) + "-" + x.told(0, 4);
            CHECK.due("question " + (number + 1), x.told(0, 0) + " " + x.told(0, 1), "0 " + (number + 1));
            CHECK.holds("it was not asked before: " + question, asked.add(question));
            CHECK.due("its answer takes its place", 1, () -> x.letter(0, 0));
            x.letter(0, 0);
            CHECK.due("just one, or done", x.done() ? -1 : 0, () -> x.told(0, 0));
            CHECK.due("and no other", -1, () -> x.told(1, 0));
        }
        CHECK.due("all is done", number + " " + x.pass(), "30 4");
    }

    private static int wordOf(KeyDistiller x, int station) {
        return Integer.parseUnsignedInt(new StringBuilder(Runs.string(x, station)).reverse().toString(), 2);
    }

    private static void oddBlocks() {
        CHECK.about("2. When it knows them all: a block of this pass or one before is ODD, if what it knows of it is "
            + "not the parity at station 1 now.");
        // Behind answers 15, 17, 23 and 25 a bit is mended. What was even in pass 0 is odd then, and searched in turn.
        int[] mended = {9, 30, 2, 17};
        int[] behind = {15, 17, 23, 25};
        int[] passes = {1, 2, 2, 3};
        KeyDistiller x = Runs.started(32, VALUES, FOUR_OFF, 4, 94);
        int answers = 0;
        int off = FOUR_OFF;
        for (int i = 0; i < mended.length; i++) {
            for (; answers < behind[i] - 1; answers++) {
                x.letter(0, 0);
                x.letter(0, 0);
            }
            CHECK.due("just before answer " + behind[i], off, () -> wordOf(x, 1));
            x.letter(0, 0);
            x.letter(0, 0);
            answers++;
            off ^= 1 << mended[i];
            CHECK.due("behind answer " + behind[i], off, () -> wordOf(x, 1));
            CHECK.due("in the pass", passes[i], x::pass);
        }
        CHECK.due("nothing differs", off, () -> VALUES);
        CHECK.due("station 0 has what it had", VALUES, () -> wordOf(x, 0));
    }

    private static void eachQuestionIsAnswered() {
        CHECK.about("Station 0 answers each that comes: an ANSWER has the number and the parity at station 0.");
        // The parity of the first block is 1 at station 0 and 0 at station 1, that of the second one 0 and 1.
        KeyDistiller x = Runs.started(12, 1 << 4, 1 << 7, 4, 42);
        x.letter(0, 2);
        x.letter(0, 2);
        x.letter(0, 0);
        CHECK.due("the first time", Runs.letter(x, 2), "1 1 1 -1 -1");
        x.letter(0, 0);
        CHECK.due("the same question again", Runs.letter(x, 2), "1 1 1 -1 -1");
        x.letter(2, 0);
        CHECK.due("the newest question", Runs.letter(x, 2), "0 2 0 4 8");
        x.letter(0, 0);
        CHECK.due("an older question", Runs.letter(x, 2), "1 1 1 -1 -1");
        x.letter(1, 2);
        x.letter(1, 0);
        CHECK.due("the newest is answered", Runs.letter(x, 3), "1 2 0 -1 -1");
        for (int i = 0; i < 60 && !x.done(); i++) {
            x.letter(3, 0);
        }
        CHECK.due("all is done", Runs.string(x, 1), "000010000000");
        CHECK.due("three older letters are under way", -1, () -> x.told(3, 0));
        x.letter(2, 0);
        CHECK.due("a question that comes when done", Runs.letter(x, 2), "1 2 0 -1 -1");
    }

    private static void theTagAtFirst() {
        CHECK.about("THE TAG of a station with a number r: T is 0 at first");
        for (int n : new int[] {0, 1, 16, 17, 64, 128}) {
            CHECK.due("of " + n + " bits that are 0, with 1", n, () -> Runs.zeros(n).tag(0, 1));
        }
        KeyDistiller x = Runs.sifted(19, 0x5874D, 1 << 16);
        for (int i = 0; i < 3; i++) {
            CHECK.due("of station 0, again", 23744, () -> x.tag(0, 65535));
            CHECK.due("of station 1, again", 18, () -> x.tag(1, 1));
        }
    }

    private static void theConstant() {
        CHECK.about("The constants: NONE = -1: There is none.");
        KeyDistiller x = new KeyDistiller();
        CHECK.due("NONE", -1, () -> KeyDistiller.NONE);
        CHECK.due("no length", KeyDistiller.NONE, x::length);
        CHECK.due("no such sample", KeyDistiller.NONE, () -> x.sampled(2));
        CHECK.due("no letter", KeyDistiller.NONE, () -> x.told(0, 0));
        CHECK.due("no pass", KeyDistiller.NONE, x::pass);
        CHECK.due("no question", KeyDistiller.NONE, () -> x.answered(0));
    }

    private static void howManyAreRecorded() {
        CHECK.about("A station records n pulses from one on, by the bits of three numbers, bit k for the k-th of them: "
            + "how many it has recorded.");
        KeyDistiller x = new KeyDistiller();
        CHECK.due("station 0, pulses 5 .. 9", 5, () -> x.record(0, 5, 5, 0b00100, 0b10110, 0));
        CHECK.due("station 1, pulses 3 .. 7", 5, () -> x.record(1, 3, 5, 0b10001, 0b01100, 0b11110));
        CHECK.due("station 1, pulses 8 .. 10", 8, () -> x.record(1, 8, 3, 0, 0b010, 0b010));
        CHECK.due("station 0, pulse 70", 6, () -> x.record(0, 70, 1, 0, 1, 1));
        // Both recorded 5 .. 9: the bases are alike, and of these station 1 did not see 8.
        CHECK.due("5, 6, 7 and 9 are kept", 4, x::sift);
        CHECK.due("values of station 0", Runs.string(x, 0), "0111");
        CHECK.due("values of station 1", Runs.string(x, 1), "1101");
    }
}
